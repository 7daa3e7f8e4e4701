import java.util.ArrayList;
import java.util.List;

/** The party once more, in the plainest words: slow, and told in another way than the class. */
final class Oracle {
    int depth = 1;
    int noon;
    int behind = 1;
    int[] strides = {};
    int[] beats = {};
    int[] kinds = {};
    int[] strains = {};
    boolean[] down = {};
    List<Integer> line = new ArrayList<>();
    int t;

    /** The text is a party. */
    Oracle(String text) {
        depth = text.charAt(1) - '0';
        noon = text.charAt(2) - '0';
        behind = text.charAt(3) - '0';
        int count = text.length() / 4 - 1;
        strides = new int[count];
        beats = new int[count];
        kinds = new int[count];
        strains = new int[count];
        down = new boolean[count];
        for (int w = 0; w < count; w++) {
            strides[w] = text.charAt(4 * w + 5) - '0';
            beats[w] = text.charAt(4 * w + 6) - '0';
            kinds[w] = text.charAt(4 * w + 7) - '0';
            line.add(w);
        }
    }

    Oracle(Oracle other) {
        depth = other.depth;
        noon = other.noon;
        behind = other.behind;
        strides = other.strides.clone();
        beats = other.beats;
        kinds = other.kinds;
        strains = other.strains.clone();
        down = other.down.clone();
        line = new ArrayList<>(other.line);
        t = other.t;
    }

    int count() {
        return strides.length;
    }

    boolean has(int w) {
        return w >= 0 && w < count();
    }

    private Integer nearestAhead(int w) {
        for (int place = line.indexOf(w) - 1; place >= 0; place--) {
            if (!down[line.get(place)]) {
                return line.get(place);
            }
        }
        return null;
    }

    int aloneTread(int w, int step) {
        switch (kinds[w]) {
            case 0: return strides[w];
            case 1: return step % 2 == 1 ? strides[w] - 1 : strides[w];
            case 2: return step % beats[w] == 0 ? strides[w] + 1 : strides[w];
            default: return strides[w] + step % beats[w];
        }
    }

    int tread(int w, boolean[] stumbles) {
        if (kinds[w] == 2) {
            Integer near = nearestAhead(w);
            return near == null ? aloneTread(w, t) : tread(near, stumbles);
        }
        return aloneTread(w, t) + (stumbles[w] ? 1 : 0);
    }

    int step(boolean[] stumbles) {
        int dropped = 0;
        int snow = t < noon ? depth : behind;
        for (int w : line) {
            if (down[w]) {
                continue;
            }
            Integer near = nearestAhead(w);
            int tread = tread(w, stumbles);
            boolean drops = near == null ? tread > snow || tread < 1 : tread != tread(near, stumbles);
            if (drops) {
                down[w] = true;
                dropped++;
            }
        }
        t++;
        return dropped;
    }

    Oracle after(int n) {
        Oracle copy = new Oracle(this);
        for (int i = 0; i < n; i++) {
            copy.step(new boolean[count()]);
        }
        return copy;
    }

    int standing() {
        int standing = 0;
        for (int w : line) {
            standing += down[w] ? 0 : 1;
        }
        return standing;
    }

    int downBits() {
        int bits = 0;
        for (int w = 0; w < count(); w++) {
            bits += down[w] ? 1 << w : 0;
        }
        return bits;
    }

    boolean change(int place) {
        if (place < 0 || place + 1 >= count()) {
            return false;
        }
        line.add(place, line.remove(place + 1));
        return true;
    }

    boolean drill(int w, boolean more) {
        int stride = has(w) ? strides[w] + (more ? 1 : -1) : 0;
        if (stride < 1 || stride > 9 || strains[w] == 5 || down[w]) {
            return false;
        }
        strides[w] = stride;
        strains[w]++;
        return true;
    }

    boolean rescue(int w) {
        if (!has(w) || !down[w]) {
            return false;
        }
        down[w] = false;
        line.remove(Integer.valueOf(w));
        line.add(w);
        return true;
    }

    int drops(int w) {
        for (int n = 0; n <= 20; n++) {
            if (after(n).down[w]) {
                return n;
            }
        }
        return -9;
    }

    /** How many, and the order as figures. */
    int[] lines() {
        int[] best = {-1, 0};
        lines(new ArrayList<>(), 0, best);
        return best;
    }

    private void lines(List<Integer> begun, int figures, int[] best) {
        if (begun.size() == count()) {
            Oracle copy = new Oracle(this);
            copy.line = new ArrayList<>(begun);
            int standing = copy.after(6).standing();
            if (standing > best[0] || standing == best[0] && figures < best[1]) {
                best[0] = standing;
                best[1] = figures;
            }
            return;
        }
        for (int w = count() - 1; w >= 0; w--) {
            if (!begun.contains(w)) {
                begun.add(w);
                lines(begun, figures * 10 + w + 1, best);
                begun.remove(begun.size() - 1);
            }
        }
    }

    int drills() {
        int fewest = drills(0, new Oracle(this));
        return fewest > 99 ? -9 : fewest;
    }

    private int drills(int w, Oracle drilled) {
        if (w == count()) {
            return drilled.after(6).downBits() == downBits() ? 0 : 100;
        }
        int fewest = 1000;
        for (int more = -2; more <= 2; more++) {
            int stride = strides[w] + more;
            if (more != 0 && (down[w] || stride < 1 || stride > 9)) {
                continue;
            }
            drilled.strides[w] = stride;
            fewest = Math.min(fewest, Math.abs(more) + drills(w + 1, drilled));
        }
        drilled.strides[w] = strides[w];
        return fewest;
    }

    int fallsIn(int one, int other) {
        for (int n = 0; n <= 24; n++) {
            if (aloneTread(one, t + n) == aloneTread(other, t + n)) {
                return n;
            }
        }
        return -9;
    }

    int likes() {
        for (int tread = 9; tread > 1; tread--) {
            boolean holds = true;
            for (int step = t; step < t + 6; step++) {
                holds &= tread <= (step < noon ? depth : behind);
            }
            if (holds) {
                return tread;
            }
        }
        return 1;
    }

    int judge(int n, String figures) {
        Oracle copy = new Oracle(this);
        for (int i = 0; i < n; i++) {
            int what = figures.charAt(3 * i) - '0';
            int middle = figures.charAt(3 * i + 1) - '0';
            int last = figures.charAt(3 * i + 2) - '0';
            boolean can = what == 2 ? last < 2 && copy.drill(middle, last == 1)
                : what < 5 && middle == 0 && copy.does(what, last);
            if (!can) {
                return i;
            }
        }
        return -9;
    }

    private boolean does(int what, int last) {
        if (what == 0 && last == 0) {
            step(new boolean[count()]);
            return true;
        }
        return what == 1 && change(last) || what == 3 && rescue(last) || what == 4 && has(last) && !down[last];
    }

    /** By how many of all orders together; below are all orders. */
    int[] share(int w) {
        int[] fraction = {0, 0};
        share(w, new ArrayList<>(), fraction);
        return fraction;
    }

    private void share(int w, List<Integer> came, int[] fraction) {
        if (came.size() == count()) {
            List<Integer> before = came.subList(0, came.indexOf(w));
            List<Integer> with = came.subList(0, came.indexOf(w) + 1);
            fraction[0] += of(with).after(6).standing() - of(before).after(6).standing();
            fraction[1]++;
            return;
        }
        for (int next = 0; next < count(); next++) {
            if (!came.contains(next)) {
                came.add(next);
                share(w, came, fraction);
                came.remove(came.size() - 1);
            }
        }
    }

    private Oracle of(List<Integer> there) {
        Oracle copy = new Oracle(this);
        copy.line.retainAll(there);
        return copy;
    }

    /** How many pairs, and the first one. */
    int[] rests(int one, int other) {
        int[] found = {0, -9};
        for (int pair = 3; pair >= 0; pair--) {
            int a = pair / 2;
            int b = pair % 2;
            int[] has = resting(one, other, a, b);
            if (has[0] >= resting(one, other, 1 - a, b)[0] && has[1] >= resting(one, other, a, 1 - b)[1]) {
                found[0]++;
                found[1] = 10 * a + b;
            }
        }
        return found;
    }

    private int[] resting(int one, int other, int a, int b) {
        Oracle copy = new Oracle(this);
        copy.strides[one] += a == 1 && strides[one] < 9 ? 1 : 0;
        copy.strides[other] += b == 1 && strides[other] < 9 ? 1 : 0;
        int[] has = {-a, -b};
        for (int n = 1; n <= 8; n++) {
            has[0] += copy.after(n).down[one] ? 0 : 1;
            has[1] += copy.after(n).down[other] ? 0 : 1;
        }
        return has;
    }

    /** Of 10 to the power of all that may stumble, so many. */
    long[] stumbles(int m, int x) {
        return stumbles(m, x, 0, new boolean[count()]);
    }

    private long[] stumbles(int m, int x, int w, boolean[] stumbles) {
        if (w == count()) {
            Oracle copy = new Oracle(this);
            copy.step(stumbles);
            return new long[] {copy.standing() >= m ? 1 : 0, 1};
        }
        stumbles[w] = false;
        long[] stays = stumbles(m, x, w + 1, stumbles);
        if (down[w] || kinds[w] == 2) {
            return stays;
        }
        stumbles[w] = true;
        long[] goes = stumbles(m, x, w + 1, stumbles);
        stumbles[w] = false;
        return new long[] {(10 - x) * stays[0] + x * goes[0], 10 * stays[1]};
    }
}
