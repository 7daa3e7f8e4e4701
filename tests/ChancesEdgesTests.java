/** Each bound of promises 25 to 28: below it, at it, above it; nobody, one, all; each rest of THE SEED. */
final class ChancesEdgesTests {
    private static final long TIMES = 6364136223846793005L, MORE = 1442695040888963407L;
    private static final int STEP = 14;

    public static void main(String[] args) {
        restsWhat();
        restsOfEachPair();
        restsAt9();
        restsAheadAndBehind();
        restsOfSteps();
        stumblesBounds();
        stumblesOfEachM();
        stumblesAtBounds();
        stumblesOfSome();
        stumblesOfFive();
        seedBounds();
        wintersBounds();
        seedGoesOn();
        winterDrills();
        winterDrillsIfItCanBe();
        winterChanges();
        winterChangesIfItCanBe();
        winterRescues();
        winterRescuesIfItCanBe();
        winterSteps();
        upperBits();
        wintersGoOnInOneCall();
        Check.finish("ChancesEdgesTests");
    }

    private static void restsOf(String told, PassInStep x, int one, int other, int pairs, int first) {
        Check.due("25: how many, " + told, x.rests(one, other, 0), pairs);
        Check.due("25: the first one, " + told, x.rests(one, other, 1), first);
    }

    private static void restsWhat() {
        PassInStep x = Check.party("P909W510W510");
        int[][] due = {{-1, -2}, {0, 1}, {1, 0}, {2, -2}, {3, -2}, {Integer.MIN_VALUE, -2}, {Integer.MAX_VALUE, -2}};
        for (int[] each : due) {
            Check.due("25: what " + each[0], x.rests(0, 1, each[0]), each[1]);
        }
        Check.due("25: the last one and one too many", x.rests(1, 2, 0), PassInStep.UNKNOWN);
        Check.due("25: one too many and the last one", x.rests(2, 1, 0), PassInStep.UNKNOWN);
        Check.due("25: -1", x.rests(-1, 1, 0), PassInStep.UNKNOWN);
        Check.due("25: both are one", x.rests(0, 0, 0), PassInStep.BAD);
    }

    /** One is always ahead, and what it has does not hang on the one behind: so there is always a pair. */
    private static void restsOfEachPair() {
        restsOf("neither", Check.party("P909W510W510"), 0, 1, 1, 0);
        restsOf("the other", Check.party("P909W610W510"), 0, 1, 1, 1);
        restsOf("the one", Check.party("P909W610W510"), 1, 0, 1, 10);
        restsOf("both", Check.party("P909W111W111"), 0, 1, 1, 11);
        restsOf("two of four", Check.party("P909W510W423"), 0, 1, 2, 0);
        restsOf("two of four, told the other way", Check.party("P909W510W423"), 1, 0, 2, 0);
        // The one has 1 by either choice; if it drills, the other has 0 by either choice.
        restsOf("three of four", Check.party("P311W111W133"), 0, 1, 3, 0);
        restsOf("no use for either", Check.party("P101W510W510"), 0, 1, 1, 0);
        restsOf("too far for one drill", Check.party("P909W710W510"), 0, 1, 1, 0);
    }

    private static void restsAt9() {
        restsOf("8 comes to 9", Check.party("P909W910W810"), 0, 1, 1, 1);
        restsOf("9 behind 8 can not come to 8", Check.party("P909W810W910"), 0, 1, 1, 0);
        restsOf("9 and 9", Check.party("P909W910W910"), 0, 1, 1, 0);
        restsOf("9 and 9, told the other way", Check.party("P909W910W910"), 1, 0, 1, 0);
        PassInStep x = Check.party("P909W810W810");
        for (int i = 0; i < 5; i++) {
            x.drill(1, i % 2 != 0);
        }
        Check.due("25: STRAIN 5 and a STRIDE of 7", x.walker(1, 3) * 10 + x.walker(1, 0), 57);
        restsOf("STRAIN is set aside", x, 0, 1, 1, 1);
    }

    private static void restsAheadAndBehind() {
        PassInStep x = Check.party("P909W610W510");
        x.change(0);
        restsOf("by THE LINE, not by number", x, 1, 0, 1, 0);
        restsOf("the snow holds no drill of the first one", Check.party("P505W510W410"), 0, 1, 1, 1);
        x = Check.party("P505W610W410W310");
        Check.due("25: the first one drops", x.step(), 2);
        restsOf("of the one left and one DOWN", x, 1, 2, PassInStep.LATE, PassInStep.LATE);
        x.rescue(2);
        restsOf("of two, somebody DOWN ahead", x, 1, 2, 1, 1);
        restsOf("a third one ahead", Check.party("P909W510W410W410"), 1, 2, 1, 11);
        restsOf("a wolf drops never", Check.party("P909W510W312"), 0, 1, 1, 0);
    }

    private static void restsOfSteps() {
        restsOf("in step once if it drills: 1 less 1 is as none", Check.party("P909W510W423"), 0, 1, 2, 0);
        restsOf("in step twice if it drills", Check.party("P909W543W423"), 0, 1, 1, 1);
        restsOf("in step three times if it drills", Check.party("P909W543W433"), 0, 1, 1, 1);
        restsOf("as long either way", Check.party("P909W211W211"), 0, 1, 1, 0);
        PassInStep x = Check.party("P909W111W510");
        restsOf("a lame one of 1 is there in one step, or in eight less 1", x, 0, 1, 1, 10);
        x.step();
        x.rescue(1);
        restsOf("from now in none, or in eight less 1", x, 0, 1, 1, 10);
        restsOf("two steps less 1 are as one", Check.party("P311W111W910"), 0, 1, 2, 0);
        restsOf("four steps less 1 are more than one", Check.party("P331W111W910"), 0, 1, 1, 10);
    }

    private static void stumblesOf(String told, PassInStep x, int m, int tenths, int above, int below) {
        String call = "26: " + told + ", " + m + " of " + tenths + " tenths";
        Check.fraction(call, x.stumbles(m, tenths, true), x.stumbles(m, tenths, false), above, below);
    }

    private static void stumblesBounds() {
        PassInStep x = Check.party("P909W510W510");
        for (int m = -2; m <= 7; m++) {
            for (int tenths = -2; tenths <= 12; tenths++) {
                boolean bad = m < 0 || m > 5 || tenths < 0 || tenths > 10;
                String told = "26: stumbles(" + m + ", " + tenths + ")";
                Check.due(told + " above", x.stumbles(m, tenths, true) == PassInStep.BAD ? 1 : 0, bad ? 1 : 0);
                Check.due(told + " below", x.stumbles(m, tenths, false) == PassInStep.BAD ? 1 : 0, bad ? 1 : 0);
            }
        }
        Check.due("26: the greatest m", x.stumbles(Integer.MAX_VALUE, 0, true), PassInStep.BAD);
        Check.due("26: the least x", x.stumbles(0, Integer.MIN_VALUE, true), PassInStep.BAD);
    }

    private static void stumblesOfEachM() {
        PassInStep x = Check.party("P909W510W512W510");
        // The wolf is always there; the last one, if both stumble or neither does.
        stumblesOf("three", x, 0, 3, 1, 1);
        stumblesOf("three", x, 1, 3, 1, 1);
        stumblesOf("three", x, 2, 3, 1, 1);
        stumblesOf("three", x, 3, 3, 29, 50);
        stumblesOf("three", x, 4, 3, 0, 1);
        stumblesOf("three", x, 5, 3, 0, 1);
        PassInStep y = new PassInStep();
        stumblesOf("nobody", y, 0, 0, 1, 1);
        stumblesOf("nobody", y, 0, 10, 1, 1);
        stumblesOf("nobody", y, 1, 5, 0, 1);
        stumblesOf("nobody", y, 5, 0, 0, 1);
        y = Check.party("P404W510");
        y.step();
        stumblesOf("all are DOWN", y, 0, 5, 1, 1);
        stumblesOf("all are DOWN", y, 1, 5, 0, 1);
    }

    private static void stumblesAtBounds() {
        for (int tenths = 0; tenths <= 10; tenths++) {
            int common = tenths == 0 || tenths == 10 ? 10 : tenths == 5 ? 5 : tenths % 2 == 0 ? 2 : 1;
            PassInStep x = Check.party("P505W510");
            stumblesOf("held, if it does not", x, 1, tenths, (10 - tenths) / common, 10 / common);
            x = Check.party("P909W510W410");
            // In step, if the last one stumbles and the first one does not.
            int above = tenths * (10 - tenths);
            int divisor = gcd(above, 100);
            stumblesOf("in step by stumbling", x, 2, tenths, above / divisor, 100 / divisor);
            stumblesOf("held however deep", Check.party("P909W810"), 1, tenths, 1, 1);
            stumblesOf("not held either way", Check.party("P101W910"), 1, tenths, 0, 1);
        }
    }

    private static int gcd(int one, int other) {
        return other == 0 ? one : gcd(other, one % other);
    }

    private static void stumblesOfSome() {
        stumblesOf("a wolf that is first does not", Check.party("P606W512"), 1, 10, 1, 1);
        stumblesOf("nor is it held by that", Check.party("P505W512"), 1, 10, 0, 1);
        stumblesOf("behind a wolf that is first", Check.party("P909W512W510"), 2, 3, 3, 10);
        stumblesOf("behind a wolf behind a plain one", Check.party("P909W510W912W610"), 3, 3, 21, 100);
        PassInStep x = Check.party("P909W111");
        x.step();
        stumblesOf("a lame one of 0 comes to 1", x, 1, 4, 2, 5);
        x = Check.party("P909W533W510");
        x.step();
        stumblesOf("a drunkard of 6, and 5", x, 2, 2, 4, 25);
        x = Check.party("P516W510");
        stumblesOf("ahead of noon", x, 1, 1, 9, 10);
        x.step();
        stumblesOf("behind noon", x, 1, 1, 1, 1);
        x = Check.party("P404W510W410W410");
        x.step();
        stumblesOf("who is DOWN is not there", x, 2, 1, 81, 100);
        stumblesOf("nor does it hold one up", x, 1, 1, 99, 100);
        x.rescue(0);
        stumblesOf("RESCUED it is the last one, and never in step", x, 2, 1, 81, 100);
    }

    private static void stumblesOfFive() {
        PassInStep x = Check.party("P909W510W510W510W510W510");
        stumblesOf("five", x, 5, 1, 1181, 2000);
        stumblesOf("five", x, 5, 5, 1, 16);
        stumblesOf("five", x, 5, 0, 1, 1);
        stumblesOf("five", x, 5, 10, 1, 1);
        stumblesOf("five", x, 0, 7, 1, 1);
        stumblesOf("five", x, 1, 7, 1, 1);
        // The first one, and of the other four one at least as it does.
        stumblesOf("five", x, 2, 5, 15, 16);
        stumblesOf("five on snow of 5", Check.party("P505W510W510W510W510W510"), 5, 1, 59049, 100000);
    }

    private static void seedBounds() {
        PassInStep x = Check.party("P909W510");
        long[] row = {1, -1, Long.MAX_VALUE, Long.MIN_VALUE, 1L << 32, -9, 0};
        long was = 0;
        for (long v : row) {
            Check.due("27: what it was ahead of " + v, x.seed(v), was);
            was = v;
        }
        Check.due("27: THE SEED is no ACT", x.about(5), 0);
    }

    private static void wintersBounds() {
        PassInStep x = Check.party("P909W510W510");
        int[] bad = {-1, 0, 31, 32, Integer.MIN_VALUE, Integer.MAX_VALUE};
        for (int m : bad) {
            Check.due("28: m " + m, x.winters(m), PassInStep.BAD);
            Check.due("28: BAD leaves THE SEED", x.seed(0), 0);
        }
        x = Check.party("P909W510");
        for (int m = 1; m <= 30; m++) {
            Check.due("28: one that never drops, m " + m, x.winters(m), m);
        }
        Check.due("28: 30 times nobody", new PassInStep().winters(30), 0);
    }

    private static long next(long seed) {
        return seed * TIMES + MORE;
    }

    private static void seedGoesOn() {
        long[] seeds = {0, 1, -1, Long.MAX_VALUE, Long.MIN_VALUE, 1L << 33, 0x0123456789ABCDEFL};
        for (long seed : seeds) {
            for (int m : new int[] {1, 2, 29, 30}) {
                PassInStep x = Check.party("P909W510");
                x.seed(seed);
                x.winters(m);
                long due = seed;
                for (int i = 0; i < m; i++) {
                    due = next(due);
                }
                Check.due("28: THE SEED behind " + m + " times from " + seed, x.seed(0), due);
            }
        }
        PassInStep x = new PassInStep();
        x.winters(1);
        Check.due("28: from 0, once", x.seed(0), MORE);
        x.winters(2);
        Check.due("28: from 0, twice", x.seed(0), 1876011003808476466L);
    }

    /** The number by which TIMES gives 1. */
    private static long back() {
        long inverse = TIMES;
        for (int i = 0; i < 6; i++) {
            inverse *= 2 - TIMES * inverse;
        }
        return inverse;
    }

    /** THE SEED that becomes this number at once. */
    private static long seedAhead(long becomes) {
        return (becomes - MORE) * back();
    }

    private static int left(long seed) {
        return (int) ((seed >>> 33) % 20);
    }

    /** A SEED whose numbers leave these rests, one behind another. */
    private static long seedFor(int... lefts) {
        for (long tried = 0; tried < 50_000_000; tried++) {
            long number = (tried * 20 + lefts[0]) << 33 | (tried * TIMES) >>> 31;
            long seed = seedAhead(number);
            int fits = 1;
            while (fits < lefts.length) {
                number = next(number);
                if (left(number) != lefts[fits]) {
                    break;
                }
                fits++;
            }
            if (fits == lefts.length) {
                return seed;
            }
        }
        throw new IllegalStateException("no such seed");
    }

    private static void winterOf(String told, PassInStep x, int due, int... lefts) {
        String before = State.ofYard(x);
        x.seed(seedFor(lefts));
        Check.due("28: " + told, x.winters(lefts.length), due);
        Check.isTrue("28: nothing changes, " + told, before.equals(State.ofYard(x)));
    }

    private static void winterDrills() {
        String five = "P909W510W510W510W510W510";
        winterOf("0 is DRILLED: four drop", Check.party(five), 5 + 1, 0, STEP);
        for (int w = 1; w < 5; w++) {
            winterOf(w + " is DRILLED: it drops", Check.party(five), 5 + 4, w, STEP);
        }
        winterOf("DRILLED more, not less", Check.party("P909W510W410"), 2 + 2, 1, STEP);
        winterOf("not 5 but CHANGED", Check.party(five), 5 + 5, 5, STEP);
    }

    private static void winterDrillsIfItCanBe() {
        winterOf("there is no walker 3", Check.party("P909W510W510W510"), 3 + 3, 3, STEP);
        winterOf("there is no walker 4", Check.party("P909W510W510W510W510"), 4 + 4, 4, STEP);
        winterOf("nobody", Check.party("P909"), 0, 0, STEP);
        winterOf("a STRIDE of 9", Check.party("P909W910W910"), 2 + 2, 1, STEP);
        winterOf("a STRIDE of 8", Check.party("P909W810W810"), 2 + 1, 1, STEP);
        PassInStep x = Check.party("P909W510W610");
        for (int i = 0; i < 4; i++) {
            x.drill(1, i % 2 == 0);
        }
        x.drill(0, true);
        winterOf("STRAIN 4", x, 2 + 1, 1, STEP);
        winterOf("STRAIN 4, twice asked", x, 2 + 2 + 1, 1, 1, STEP);
        x.drill(0, false);
        x.drill(1, false);
        winterOf("STRAIN 5", x, 2 + 2, 1, STEP);
        winterOf("who is DOWN is not DRILLED", Check.party("P909W510W410"), 1 + 1 + 2 + 1, STEP, 1, 10, STEP);
        winterOf("who is not DOWN is", Check.party("P909W510W410"), 1 + 2 + 2 + 2, STEP, 10, 1, STEP);
    }

    private static void winterChanges() {
        winterOf("CHANGED at 0", Check.party("P909W510W410W410"), 3 + 2, 5, STEP);
        winterOf("CHANGED at 1", Check.party("P505W910W510W410W410"), 4 + 2, 6, STEP);
        winterOf("CHANGED at 2", Check.party("P505W910W910W510W410W410"), 5 + 2, 7, STEP);
        winterOf("CHANGED at 3", Check.party("P606W910W910W910W712W610"), 5 + 2, 8, STEP);
        winterOf("not CHANGED at 3", Check.party("P606W910W910W910W712W610"), 5 + 1, 7, STEP);
    }

    private static void winterChangesIfItCanBe() {
        winterOf("no place 3 of three", Check.party("P909W510W410W410"), 3 + 1, 8, STEP);
        winterOf("no next one of three", Check.party("P606W910W712W610"), 3 + 1, 7, STEP);
        winterOf("the last two of three", Check.party("P606W910W712W610"), 3 + 2, 6, STEP);
        winterOf("no next one of four", Check.party("P606W910W910W712W610"), 4 + 1, 8, STEP);
        winterOf("the last two of four", Check.party("P606W910W910W712W610"), 4 + 2, 7, STEP);
        winterOf("one alone", Check.party("P909W510"), 1 + 1, 5, STEP);
        winterOf("nobody", Check.party("P909"), 0, 5, STEP);
    }

    private static void winterRescues() {
        for (int w = 0; w < 5; w++) {
            StringBuilder text = new StringBuilder("P404");
            for (int v = 0; v < 5; v++) {
                text.append(v == w ? "W510" : "W410");
            }
            PassInStep x = Check.party(text.toString());
            x.step();
            winterOf(w + " is RESCUED", x, 5, 9 + w);
            winterOf(w + " is RESCUED and drops", x, 5 + 4, 9 + w, STEP);
            winterOf("another one is not DOWN", x, 4, 9 + (w + 1) % 5);
        }
        PassInStep x = Check.party("P519W510W610W510");
        x.change(0);
        x.step();
        Check.due("28: 1 is DOWN", x.about(3), 2);
        winterOf("who is RESCUED is the last one", x, 3 + 2, 10, STEP);
    }

    private static void winterRescuesIfItCanBe() {
        winterOf("who is not DOWN stays where it is", Check.party("P909W510W410W410"), 3 + 1, 9, STEP);
        winterOf("there is no walker 3", Check.party("P909W510W510W510"), 3 + 3, 12, STEP);
        winterOf("there is no walker 4", Check.party("P909W510W510W510W510"), 4 + 4, 13, STEP);
        winterOf("nobody", Check.party("P909"), 0, 9, 13);
    }

    private static void winterSteps() {
        for (int left = 0; left < 20; left++) {
            winterOf("a STEP or not, " + left, Check.party("P909W510W410W310"), left >= 14 ? 1 : 3, left);
        }
        winterOf("no STEP by 13", Check.party("P404W510W510W510W510W510"), 5, 13);
        winterOf("six STEPS", Check.party("P931W510"), 3, 14, 15, 16, 17, 18);
        winterOf("THE STEP goes on", Check.party("P921W510"), 2, 19, 14, 19, 14);
    }

    private static void upperBits() {
        long[] uppers = {0, 1, 13, 14, 19, 20, 33, 34, (1L << 30) - 1, 1L << 30, (1L << 30) + 10, (1L << 31) - 2,
            (1L << 31) - 1, (1L << 31) - 14};
        long[] lowers = {0, 1, (1L << 33) - 1, 1L << 32, (1L << 32) - 1};
        for (long upper : uppers) {
            for (long lower : lowers) {
                PassInStep x = Check.party("P909W510W410W310");
                x.seed(seedAhead(upper << 33 | lower));
                Check.due("28: upper bits " + upper + ", lower " + lower, x.winters(1), upper % 20 >= 14 ? 1 : 3);
                Check.due("28: the number itself", x.seed(0), upper << 33 | lower);
            }
        }
    }

    private static void wintersGoOnInOneCall() {
        PassInStep x = Check.party("P404W510W410W310");
        winterOf("one STEP", x, 1, STEP);
        winterOf("each call begins as it is now", x, 1, STEP);
        winterOf("STEP and RESCUED", x, 1 + 2 + 1, STEP, 9, STEP);
        winterOf("STEP, RESCUED twice", x, 1 + 2 + 2, STEP, 9, 9);
        winterOf("CHANGED twice is not CHANGED", Check.party("P909W510W410W410"), 3 + 3 + 1, 5, 5, STEP);
        winterOf("DRILLED twice", Check.party("P909W510W310"), 2 + 2 + 2, 1, 1, STEP);
        x.step();
        winterOf("from now", x, 2, 9);
        Check.due("28: winters are no ACTS", x.about(5), 1);
    }
}
