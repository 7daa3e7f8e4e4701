/** A party that drills in the inn yard and goes over the pass in step: the document's promises 1 to 30. */
public final class PassInStep {
    public static final int UNKNOWN = -1, BAD = -2, LATE = -3, FULL = -4, NONE = -9;

    private static final int PLAIN = 0, LAME = 1, WOLF = 2, DRUNK = 3;
    private static final int MOST_LETTERS = 48, MOST_BYTE = 255;
    private static final int MOST_WALKERS = 5, HEAD = 4, TOLD = 4, MOST_TOLD = HEAD + MOST_WALKERS * TOLD;
    private static final int MOST_STRIDE = 9, MOST_BEAT = 4, MOST_STRAIN = 5;
    private static final int MOST_ACTS = 14, SLOTS = 2;
    private static final int MOST_MARKS = 6, MOST_MARKED_STEP = 20, MOST_MARKED_TREAD = 12;
    private static final int MOST_AHEAD = 20, MOST_WAIT = 24, SOON = 6, RESTING = 8;
    private static final int MOST_DRILLED = 2, TOO_MANY_DRILLS = MOST_WALKERS * MOST_DRILLED + 1;
    private static final int MOST_DOINGS = 4, TENTHS = 10, MOST_WINTERS = 30;
    private static final int[] FACTORIALS = {1, 1, 2, 6, 24, 120};

    private final Text text;
    private final Party told;
    private final Yard now;
    private final Store acts;
    private final Store slots;
    private final Marks marks;
    private final Foresight foresight;
    private final Chances chances;
    private int firstAct;
    private int actCount;
    private int slotsKept;
    private long weather;

    public PassInStep() {
        text = new Text();
        told = new Party();
        now = new Yard(told);
        acts = new Store(MOST_ACTS);
        slots = new Store(SLOTS);
        marks = new Marks();
        Yard trial = new Yard(told);
        foresight = new Foresight(told, now, trial);
        chances = new Chances(told, now, trial);
    }

    // ---- the party

    public int write(int letter) {
        if (letter < 0 || letter > MOST_BYTE) {
            return BAD;
        }
        if (text.isFull()) {
            return FULL;
        }
        return text.append(letter);
    }

    public int wipe() {
        return text.clear();
    }

    public int fault() {
        return text.faultPlace();
    }

    public int party() {
        if (text.faultPlace() != NONE) {
            return LATE;
        }
        told.readFrom(text);
        now.begin(text);
        forgetActs();
        slotsKept = 0;
        return told.size();
    }

    public int about(int what) {
        switch (what) {
            case 0: return told.size();
            case 1: return now.stepNumber();
            case 2: return told.snowAt(now.stepNumber());
            case 3: return now.downBits();
            case 4: return now.strainOfAll();
            case 5: return actCount;
            case 6: return marks.size();
            case 7: return text.size();
            default: return BAD;
        }
    }

    public int walker(int walker, int what) {
        if (!told.has(walker)) {
            return UNKNOWN;
        }
        switch (what) {
            case 0: return now.strideOf(walker);
            case 1: return told.beatOf(walker);
            case 2: return told.kindOf(walker);
            case 3: return now.strainOf(walker);
            case 4: return now.isDown(walker) ? 1 : 0;
            case 5: return now.placeOf(walker);
            case 6: return now.treadOf(walker);
            default: return BAD;
        }
    }

    public int line(int place) {
        return told.has(place) ? now.walkerAt(place) : UNKNOWN;
    }

    // ---- acts

    public int step() {
        noteAct();
        return now.takeStep(0);
    }

    public int change(int place) {
        if (!now.canSwap(place)) {
            return UNKNOWN;
        }
        noteAct();
        now.trySwap(place);
        return now.walkerAt(place);
    }

    public int drill(int walker, boolean more) {
        if (!told.has(walker)) {
            return UNKNOWN;
        }
        if (!now.canDrill(walker, more)) {
            return LATE;
        }
        noteAct();
        now.tryDrill(walker, more);
        return now.strideOf(walker);
    }

    public int rescue(int walker) {
        if (!told.has(walker)) {
            return UNKNOWN;
        }
        if (!now.isDown(walker)) {
            return LATE;
        }
        noteAct();
        now.tryRescue(walker);
        return Integer.bitCount(now.downBits());
    }

    public int undo() {
        if (actCount <= 0) {
            return LATE;
        }
        actCount--;
        acts.restore((firstAct + actCount) % MOST_ACTS, now);
        return actCount;
    }

    /** Keeps how all is before an act; of too many, the first one is forgotten. */
    private void noteAct() {
        acts.save((firstAct + actCount) % MOST_ACTS, now);
        if (actCount < MOST_ACTS) {
            actCount++;
        } else {
            firstAct = (firstAct + 1) % MOST_ACTS;
        }
    }

    private void forgetActs() {
        firstAct = 0;
        actCount = 0;
    }

    // ---- steps to come

    public int ahead(int n) {
        return n < 0 || n > MOST_AHEAD ? BAD : foresight.standingBehind(n);
    }

    public int drops(int walker) {
        return told.has(walker) ? foresight.dropOf(walker) : UNKNOWN;
    }

    public int lines(boolean order) {
        return foresight.bestLine(order);
    }

    public int drills() {
        return foresight.fewestDrills();
    }

    public int fallsIn(int one, int other) {
        if (!told.has(one) || !told.has(other)) {
            return UNKNOWN;
        }
        return one == other ? BAD : foresight.meeting(one, other);
    }

    public int likes() {
        return foresight.likedTread();
    }

    public int judge(int n, long row) {
        if (n < 1 || n > MOST_DOINGS || row < 0) {
            return BAD;
        }
        long bound = 1;
        for (int i = 0; i < n; i++) {
            bound = bound * 1000;
        }
        return row >= bound ? BAD : foresight.firstUndoable(bound, row);
    }

    public int share(int walker, boolean upper) {
        if (!told.has(walker)) {
            return UNKNOWN;
        }
        return partOf(foresight.shareAbove(walker), at(FACTORIALS, told.size()), upper);
    }

    // ---- marks

    public int mark(int t, int v) {
        if (t < 0 || t > MOST_MARKED_STEP || v < 0 || v > MOST_MARKED_TREAD) {
            return BAD;
        }
        return marks.isFull() ? FULL : marks.append(t, v);
    }

    public int snowed() {
        return marks.clear();
    }

    public int whose(int what) {
        switch (what) {
            case 0: return marks.fitting();
            case 1: return marks.firstFitting();
            default: return BAD;
        }
    }

    // ---- rests, chances

    public int rests(int one, int other, int what) {
        if (!told.has(one) || !told.has(other)) {
            return UNKNOWN;
        }
        if (one == other || what < 0 || what > 1) {
            return BAD;
        }
        if (now.isDown(one) || now.isDown(other)) {
            return LATE;
        }
        return chances.restingPairs(one, other, what == 1);
    }

    public int stumbles(int m, int x, boolean upper) {
        if (m < 0 || m > MOST_WALKERS || x < 0 || x > TENTHS) {
            return BAD;
        }
        return partOf(chances.stumblesAbove(m, x), chances.stumblesBelow(), upper);
    }

    public long seed(long v) {
        long old = weather;
        weather = v;
        return old;
    }

    public int winters(int m) {
        if (m < 1 || m > MOST_WINTERS) {
            return BAD;
        }
        int together = 0;
        chances.beginWinters();
        for (int i = 0; i < m; i++) {
            weather = weather * 6364136223846793005L + 1442695040888963407L;
            together += chances.winter((int) ((weather >>> 33) % 20));
        }
        return together;
    }

    // ---- slots

    public int keep(int slot) {
        if (!isSlot(slot)) {
            return UNKNOWN;
        }
        slots.save(slot, now);
        slotsKept |= 1 << slot;
        return now.stepNumber();
    }

    public int again(int slot) {
        if (!isSlot(slot)) {
            return UNKNOWN;
        }
        if ((slotsKept >> slot & 1) == 0) {
            return LATE;
        }
        slots.restore(slot, now);
        forgetActs();
        return now.stepNumber();
    }

    private static boolean isSlot(int slot) {
        return slot >= 0 && slot < SLOTS;
    }

    // ---- rows and fractions

    private static int at(int[] row, int place) {
        return place >= 0 && place < row.length ? row[place] : 0;
    }

    private static void put(int[] row, int place, int value) {
        if (place >= 0 && place < row.length) {
            row[place] = value;
        }
    }

    private static boolean isBetween(int number, int least, int most) {
        return number >= least && number <= most;
    }

    /** The number above or below of a fraction in least terms; below is more than 0. */
    private static int partOf(int above, int below, boolean upper) {
        int common = commonDivisor(Math.abs(above), below);
        if (common <= 0) {
            return 0;
        }
        return upper ? above / common : below / common;
    }

    private static int commonDivisor(int one, int other) {
        int greater = one;
        int less = other;
        for (int i = 0; i < 64 && less > 0; i++) {
            int rest = greater % less;
            greater = less;
            less = rest;
        }
        return greater;
    }

    /** The tread of one that has nobody ahead. */
    private static int treadAlone(int kind, int stride, int beat, int t) {
        int left = beat > 0 ? t % beat : 0;
        switch (kind) {
            case LAME: return stride - (t & 1);
            case WOLF: return stride + (left == 0 ? 1 : 0);
            case DRUNK: return stride + left;
            default: return stride;
        }
    }

    /** THE TEXT. */
    private static final class Text {
        private final int[] letters = new int[MOST_LETTERS];
        private int length;

        int size() {
            return length;
        }

        boolean isFull() {
            return length >= MOST_LETTERS;
        }

        int append(int letter) {
            put(letters, length, letter);
            length++;
            return length;
        }

        int clear() {
            int old = length;
            length = 0;
            return old;
        }

        int figureAt(int place) {
            return at(letters, place) - '0';
        }

        int faultPlace() {
            for (int place = 0; place < length; place++) {
                if (!fits(place)) {
                    return place;
                }
            }
            return length >= HEAD && (length - HEAD) % TOLD == 0 ? NONE : length;
        }

        private boolean fits(int place) {
            if (place < HEAD) {
                return fitsHead(place);
            }
            return place < MOST_TOLD && fitsWalker(place, (place - HEAD) % TOLD);
        }

        private boolean fitsHead(int place) {
            switch (place) {
                case 0: return at(letters, place) == 'P';
                case 2: return isBetween(figureAt(place), 0, 9);
                default: return isBetween(figureAt(place), 1, 9);
            }
        }

        private boolean fitsWalker(int place, int part) {
            switch (part) {
                case 0: return at(letters, place) == 'W';
                case 1: return isBetween(figureAt(place), 1, MOST_STRIDE);
                case 2: return isBetween(figureAt(place), 1, MOST_BEAT);
                default: return isBetween(figureAt(place), PLAIN, DRUNK);
            }
        }
    }

    /** THE PARTY: what no act changes. */
    private static final class Party {
        private final int[] beats = new int[MOST_WALKERS];
        private final int[] kinds = new int[MOST_WALKERS];
        private int count;
        private int depth = 1;
        private int noon;
        private int depthBehind = 1;

        /** The text has no fault. */
        void readFrom(Text text) {
            depth = text.figureAt(1);
            noon = text.figureAt(2);
            depthBehind = text.figureAt(3);
            count = Math.max(0, Math.min(MOST_WALKERS, (text.size() - HEAD) / TOLD));
            for (int walker = 0; walker < count; walker++) {
                put(beats, walker, text.figureAt(HEAD + walker * TOLD + 2));
                put(kinds, walker, text.figureAt(HEAD + walker * TOLD + 3));
            }
        }

        int size() {
            return count;
        }

        boolean has(int walker) {
            return walker >= 0 && walker < count;
        }

        int beatOf(int walker) {
            return at(beats, walker);
        }

        int kindOf(int walker) {
            return at(kinds, walker);
        }

        int snowAt(int t) {
            return t >= noon ? depthBehind : depth;
        }
    }

    /** What acts change: THE LINE, STRIDES, STRAIN, who is DOWN, THE STEP. */
    private static final class Yard {
        /** How many numbers a yard is when it is stored. */
        static final int CELLS = 3 * MOST_WALKERS + 2;

        private final Party told;
        private final int[] line = new int[MOST_WALKERS];
        private final int[] strides = new int[MOST_WALKERS];
        private final int[] strains = new int[MOST_WALKERS];
        private int down;
        private int steps;

        Yard(Party party) {
            told = party;
        }

        /** The text is that of the party, without a fault. */
        void begin(Text text) {
            for (int walker = 0; walker < MOST_WALKERS; walker++) {
                put(line, walker, walker);
                put(strides, walker, told.has(walker) ? text.figureAt(HEAD + walker * TOLD + 1) : 0);
                put(strains, walker, 0);
            }
            down = 0;
            steps = 0;
        }

        void copyFrom(Yard other) {
            for (int i = 0; i < MOST_WALKERS; i++) {
                put(line, i, at(other.line, i));
                put(strides, i, at(other.strides, i));
                put(strains, i, at(other.strains, i));
            }
            down = other.down;
            steps = other.steps;
        }

        void writeTo(int[] cells, int from) {
            for (int i = 0; i < MOST_WALKERS; i++) {
                put(cells, from + i, at(line, i));
                put(cells, from + MOST_WALKERS + i, at(strides, i));
                put(cells, from + 2 * MOST_WALKERS + i, at(strains, i));
            }
            put(cells, from + 3 * MOST_WALKERS, down);
            put(cells, from + 3 * MOST_WALKERS + 1, steps);
        }

        void readFrom(int[] cells, int from) {
            for (int i = 0; i < MOST_WALKERS; i++) {
                put(line, i, at(cells, from + i));
                put(strides, i, at(cells, from + MOST_WALKERS + i));
                put(strains, i, at(cells, from + 2 * MOST_WALKERS + i));
            }
            down = at(cells, from + 3 * MOST_WALKERS);
            steps = at(cells, from + 3 * MOST_WALKERS + 1);
        }

        int stepNumber() {
            return steps;
        }

        int downBits() {
            return down;
        }

        int standingBits() {
            return ((1 << told.size()) - 1) & ~down;
        }

        int standing() {
            return Integer.bitCount(standingBits());
        }

        boolean isDown(int walker) {
            return (down >> walker & 1) != 0;
        }

        int strideOf(int walker) {
            return at(strides, walker);
        }

        int strainOf(int walker) {
            return at(strains, walker);
        }

        int strainOfAll() {
            int all = 0;
            for (int walker = 0; walker < told.size(); walker++) {
                all += at(strains, walker);
            }
            return all;
        }

        int walkerAt(int place) {
            return at(line, place);
        }

        int placeOf(int walker) {
            for (int place = 0; place < told.size(); place++) {
                if (walkerAt(place) == walker) {
                    return place;
                }
            }
            return NONE;
        }

        int firstStanding() {
            for (int place = 0; place < told.size(); place++) {
                if (!isDown(walkerAt(place))) {
                    return walkerAt(place);
                }
            }
            return NONE;
        }

        /** The tread in the step that comes now, by who is down before it. */
        int treadOf(int walker) {
            boolean somebodyAhead = false;
            int treadAhead = 0;
            for (int place = 0; place < told.size(); place++) {
                int next = walkerAt(place);
                if (!isDown(next)) {
                    treadAhead = treadBehind(next, somebodyAhead, treadAhead, 0);
                    somebodyAhead = true;
                    if (next == walker) {
                        return treadAhead;
                    }
                }
            }
            return NONE;
        }

        /** The tread of a walker in a step t as if nobody was ahead. */
        int treadOfOne(int walker, int t) {
            return treadAlone(told.kindOf(walker), strideOf(walker), told.beatOf(walker), t);
        }

        private int treadBehind(int walker, boolean somebodyAhead, int treadAhead, int stumblers) {
            int kind = told.kindOf(walker);
            if (kind == WOLF && somebodyAhead) {
                return treadAhead;
            }
            int stumble = kind == WOLF ? 0 : stumblers >> walker & 1;
            return treadAlone(kind, strideOf(walker), told.beatOf(walker), steps) + stumble;
        }

        /** A step in which those whose bits are set tread 1 more (wolves do not): how many dropped. */
        int takeStep(int stumblers) {
            int snow = told.snowAt(steps);
            int dropped = 0;
            boolean somebodyAhead = false;
            int treadAhead = 0;
            for (int place = 0; place < told.size(); place++) {
                int walker = walkerAt(place);
                if (isDown(walker)) {
                    continue;
                }
                int tread = treadBehind(walker, somebodyAhead, treadAhead, stumblers);
                if (somebodyAhead ? tread == treadAhead : isBetween(tread, 1, snow)) {
                    somebodyAhead = true;
                    treadAhead = tread;
                } else {
                    down |= 1 << walker;
                    dropped++;
                }
            }
            steps++;
            return dropped;
        }

        boolean canSwap(int place) {
            return place >= 0 && place < told.size() - 1;
        }

        boolean trySwap(int place) {
            if (!canSwap(place)) {
                return false;
            }
            int first = walkerAt(place);
            put(line, place, walkerAt(place + 1));
            put(line, place + 1, first);
            return true;
        }

        boolean canDrill(int walker, boolean more) {
            return told.has(walker) && !isDown(walker) && strainOf(walker) < MOST_STRAIN
                && isBetween(strideOf(walker) + (more ? 1 : -1), 1, MOST_STRIDE);
        }

        boolean tryDrill(int walker, boolean more) {
            if (!canDrill(walker, more)) {
                return false;
            }
            setStride(walker, strideOf(walker) + (more ? 1 : -1));
            put(strains, walker, strainOf(walker) + 1);
            return true;
        }

        boolean tryRescue(int walker) {
            if (!told.has(walker) || !isDown(walker)) {
                return false;
            }
            down &= ~(1 << walker);
            for (int place = placeOf(walker); place < told.size() - 1; place++) {
                trySwap(place);
            }
            return true;
        }

        void setStride(int walker, int stride) {
            put(strides, walker, stride);
        }

        /** Who is not among the bits is as one that is down: nobody sees it. */
        void leaveOnly(int bits) {
            down |= ~bits;
        }

        /** The line is the order of this rank (0 first) among all orders, the least first. */
        void setOrder(int rank) {
            int unplaced = (1 << told.size()) - 1;
            int rest = rank;
            for (int place = 0; place < told.size(); place++) {
                int orders = Math.max(1, at(FACTORIALS, told.size() - 1 - place));
                int walker = lowestBut(unplaced, rest / orders);
                rest = rest % orders;
                unplaced &= ~(1 << walker);
                put(line, place, walker);
            }
        }

        private static int lowestBut(int bits, int passed) {
            int toPass = passed;
            for (int walker = 0; walker < MOST_WALKERS; walker++) {
                if ((bits >> walker & 1) != 0) {
                    if (toPass == 0) {
                        return walker;
                    }
                    toPass--;
                }
            }
            return 0;
        }

        /** The walkers in the line as figures, 1 more each. */
        int lineAsFigures() {
            int figures = 0;
            for (int place = 0; place < told.size(); place++) {
                figures = figures * 10 + walkerAt(place) + 1;
            }
            return figures;
        }
    }

    /** Yards as rows of numbers. */
    private static final class Store {
        private final int[] cells;

        Store(int rows) {
            cells = new int[Math.max(0, Math.min(rows, MOST_ACTS)) * Yard.CELLS];
        }

        void save(int row, Yard yard) {
            yard.writeTo(cells, row * Yard.CELLS);
        }

        void restore(int row, Yard yard) {
            yard.readFrom(cells, row * Yard.CELLS);
        }
    }

    /** What is to come, tried on another yard, so that nothing changes. */
    private static final class Foresight {
        private final Party told;
        private final Yard now;
        private final Yard trial;

        Foresight(Party party, Yard yard, Yard forTrials) {
            told = party;
            now = yard;
            trial = forTrials;
        }

        int standingBehind(int n) {
            trial.copyFrom(now);
            goOn(n);
            return trial.standingBits();
        }

        private void goOn(int n) {
            for (int i = 0; i < n; i++) {
                trial.takeStep(0);
            }
        }

        int dropOf(int walker) {
            trial.copyFrom(now);
            for (int n = 0; n <= MOST_AHEAD; n++) {
                if (trial.isDown(walker)) {
                    return n;
                }
                trial.takeStep(0);
            }
            return NONE;
        }

        int bestLine(boolean order) {
            int most = -1;
            int figures = 0;
            for (int rank = 0; rank < at(FACTORIALS, told.size()); rank++) {
                trial.copyFrom(now);
                trial.setOrder(rank);
                goOn(SOON);
                if (trial.standing() > most) {
                    most = trial.standing();
                    figures = trial.lineAsFigures();
                }
            }
            return order ? figures : most;
        }

        /**
         * Nobody drops, if the snow holds the first one and each other one treads as the first one does:
         * so what the first one drills tells what each other one must, if anything helps it.
         */
        int fewestDrills() {
            int first = now.firstStanding();
            if (first == NONE) {
                return 0;
            }
            int fewest = TOO_MANY_DRILLS;
            for (int more = -MOST_DRILLED; more <= MOST_DRILLED; more++) {
                if (canDrillBy(first, more) && snowHolds(first, more)) {
                    fewest = Math.min(fewest, Math.abs(more) + drillsOfOthers(first, more));
                }
            }
            return fewest >= TOO_MANY_DRILLS ? NONE : fewest;
        }

        private boolean canDrillBy(int walker, int more) {
            return isBetween(more, -MOST_DRILLED, MOST_DRILLED)
                && isBetween(now.strideOf(walker) + more, 1, MOST_STRIDE);
        }

        private boolean snowHolds(int first, int more) {
            for (int n = 0; n < SOON; n++) {
                int t = now.stepNumber() + n;
                if (!isBetween(now.treadOfOne(first, t) + more, 1, told.snowAt(t))) {
                    return false;
                }
            }
            return true;
        }

        private int drillsOfOthers(int first, int more) {
            int made = 0;
            for (int walker = 0; walker < told.size(); walker++) {
                if (walker != first && !now.isDown(walker) && told.kindOf(walker) != WOLF) {
                    made += drillsToTreadAs(walker, first, more);
                }
            }
            return made;
        }

        private int drillsToTreadAs(int walker, int first, int more) {
            int by = apart(walker, first, 0) + more;
            for (int n = 1; n < SOON; n++) {
                if (apart(walker, first, n) + more != by) {
                    return TOO_MANY_DRILLS;
                }
            }
            return canDrillBy(walker, by) ? Math.abs(by) : TOO_MANY_DRILLS;
        }

        /** How much more one treads than a walker does, n steps from now. */
        private int apart(int walker, int one, int n) {
            int t = now.stepNumber() + n;
            return now.treadOfOne(one, t) - now.treadOfOne(walker, t);
        }

        int meeting(int one, int other) {
            for (int n = 0; n <= MOST_WAIT; n++) {
                if (apart(one, other, n) == 0) {
                    return n;
                }
            }
            return NONE;
        }

        int likedTread() {
            int tread = MOST_STRIDE;
            for (int n = 0; n < SOON; n++) {
                tread = Math.min(tread, told.snowAt(now.stepNumber() + n));
            }
            return tread;
        }

        /** The place of the first doing that can not be; bound is 1 and three noughts a doing, row less. */
        int firstUndoable(long bound, long row) {
            trial.copyFrom(now);
            int place = 0;
            for (long unit = bound / 1000; unit > 0; unit = unit / 1000) {
                if (!tryDoing((int) (row / unit % 1000))) {
                    return place;
                }
                place++;
            }
            return NONE;
        }

        private boolean tryDoing(int figures) {
            int what = figures / 100;
            int middle = figures / 10 % 10;
            int last = figures % 10;
            if (what != 2 && middle != 0) {
                return false;
            }
            switch (what) {
                // A step can always be.
                case 0: return last == 0 && trial.takeStep(0) >= 0;
                case 1: return trial.trySwap(last);
                case 2: return last <= 1 && trial.tryDrill(middle, last == 1);
                case 3: return trial.tryRescue(last);
                case 4: return told.has(last) && !trial.isDown(last);
                default: return false;
            }
        }

        /** A walker's share as so many of all orders in which the walkers may come. */
        int shareAbove(int walker) {
            int above = 0;
            for (int came = 0; came < 1 << told.size(); came++) {
                if ((came >> walker & 1) == 0) {
                    int before = Integer.bitCount(came);
                    int orders = at(FACTORIALS, before) * at(FACTORIALS, told.size() - 1 - before);
                    above += orders * (standingOf(came | 1 << walker) - standingOf(came));
                }
            }
            return above;
        }

        private int standingOf(int came) {
            trial.copyFrom(now);
            trial.leaveOnly(came);
            goOn(SOON);
            return trial.standing();
        }
    }

    /** Rests, stumbles and winters, tried on another yard too. */
    private static final class Chances {
        private final Party told;
        private final Yard now;
        private final Yard trial;
        /** What the two have by each pair of choices: twice the first one's and the second one's. */
        private final int[] hasOne = new int[4];
        private final int[] hasOther = new int[4];

        Chances(Party party, Yard yard, Yard forTrials) {
            told = party;
            now = yard;
            trial = forTrials;
        }

        int restingPairs(int one, int other, boolean first) {
            for (int pair = 0; pair < 4; pair++) {
                tryRest(one, other, pair);
            }
            int pairs = 0;
            int least = NONE;
            for (int pair = 3; pair >= 0; pair--) {
                boolean atRest = at(hasOne, pair ^ 2) <= at(hasOne, pair)
                    && at(hasOther, pair ^ 1) <= at(hasOther, pair);
                if (atRest) {
                    pairs++;
                    least = pair / 2 * 10 + pair % 2;
                }
            }
            return first ? least : pairs;
        }

        private void tryRest(int one, int other, int pair) {
            trial.copyFrom(now);
            trial.setStride(one, Math.min(MOST_STRIDE, now.strideOf(one) + pair / 2));
            trial.setStride(other, Math.min(MOST_STRIDE, now.strideOf(other) + pair % 2));
            int ofOne = -(pair / 2);
            int ofOther = -(pair % 2);
            for (int n = 0; n < RESTING; n++) {
                trial.takeStep(0);
                ofOne += trial.isDown(one) ? 0 : 1;
                ofOther += trial.isDown(other) ? 0 : 1;
            }
            put(hasOne, pair, ofOne);
            put(hasOther, pair, ofOther);
        }

        /** Each walker may stumble, whether it matters or not: so the fraction is of tenths of tenths. */
        int stumblesBelow() {
            int below = 1;
            for (int walker = 0; walker < told.size(); walker++) {
                below = below * TENTHS;
            }
            return below;
        }

        int stumblesAbove(int m, int x) {
            int above = 0;
            for (int stumblers = 0; stumblers < 1 << told.size(); stumblers++) {
                trial.copyFrom(now);
                trial.takeStep(stumblers);
                if (trial.standing() >= m) {
                    above += likelihood(stumblers, x);
                }
            }
            return above;
        }

        private int likelihood(int stumblers, int x) {
            int likelihood = 1;
            for (int walker = 0; walker < told.size(); walker++) {
                likelihood = likelihood * ((stumblers >> walker & 1) != 0 ? x : TENTHS - x);
            }
            return likelihood;
        }

        void beginWinters() {
            trial.copyFrom(now);
        }

        /** One time of a winter by what is left (0 .. 19): how many are not down behind it. */
        int winter(int left) {
            if (left < 5) {
                trial.tryDrill(left, true);
            } else if (left < 9) {
                trial.trySwap(left - 5);
            } else if (left < 14) {
                trial.tryRescue(left - 9);
            } else {
                trial.takeStep(0);
            }
            return trial.standing();
        }
    }

    /** MARKS, and whose they are. */
    private static final class Marks {
        private final int[] times = new int[MOST_MARKS];
        private final int[] treads = new int[MOST_MARKS];
        private int count;

        int size() {
            return count;
        }

        boolean isFull() {
            return count >= MOST_MARKS;
        }

        int append(int t, int v) {
            put(times, count, t);
            put(treads, count, v);
            count++;
            return count;
        }

        int clear() {
            int old = count;
            count = 0;
            return old;
        }

        int fitting() {
            int fitting = 0;
            for (int code = 0; code < 400; code++) {
                fitting += isSomebody(code) && fitsAll(code) ? 1 : 0;
            }
            return fitting;
        }

        int firstFitting() {
            for (int code = 0; code < 400; code++) {
                if (isSomebody(code) && fitsAll(code)) {
                    return code;
                }
            }
            return NONE;
        }

        /** A code is 100 times the kind, 10 times the stride, and the beat. */
        private static boolean isSomebody(int code) {
            return code / 100 != WOLF && code / 10 % 10 >= 1 && isBetween(code % 10, 1, MOST_BEAT);
        }

        private boolean fitsAll(int code) {
            for (int i = 0; i < count; i++) {
                if (treadAlone(code / 100, code / 10 % 10, code % 10, at(times, i)) != at(treads, i)) {
                    return false;
                }
            }
            return true;
        }
    }
}
