/** Promises 6 to 30 on many parties, against the same told once more (Oracle). */
final class OracleTests {
    private static long state = 1;

    public static void main(String[] args) {
        for (int i = 0; i < 1500; i++) {
            oneParty("party " + i);
        }
        Check.finish("OracleTests");
    }

    /** 0 .. bound less 1, always the same ones. */
    private static int next(int bound) {
        state = state * 6364136223846793005L + 1442695040888963407L;
        return (int) Long.remainderUnsigned(state >>> 17, bound);
    }

    private static String text() {
        StringBuilder text = new StringBuilder("P");
        text.append(2 + next(8)).append(next(10)).append(2 + next(8));
        int stride = 2 + next(7);
        int count = next(4) == 0 ? next(3) : 3 + next(3);
        for (int w = 0; w < count; w++) {
            boolean near = next(5) > 0;
            text.append('W').append(near ? Math.max(1, stride + next(2) * (next(3) - 1)) : 1 + next(9));
            text.append(1 + next(4)).append(next(2) * next(4));
        }
        return text.toString();
    }

    private static void oneParty(String name) {
        String text = text();
        PassInStep x = Check.party(text);
        Oracle o = new Oracle(text);
        Oracle[] kept = {null, null};
        java.util.ArrayList<Oracle> acts = new java.util.ArrayList<>();
        for (int round = 0; round < 12; round++) {
            o = act(name + " " + text + " round " + round, x, o, acts, kept);
            while (acts.size() > 14) {
                acts.remove(0);
            }
            if (round % 4 == 1) {
                compare(name + " " + text + " round " + round, x, o, acts.size());
            }
        }
    }

    private static Oracle act(String name, PassInStep x, Oracle o, java.util.ArrayList<Oracle> acts, Oracle[] kept) {
        Oracle was = new Oracle(o);
        int w = next(6);
        int place = next(6);
        boolean more = next(2) == 0;
        int slot = next(2);
        switch (next(12)) {
            case 0: case 1: case 2:
                Check.due(name + " step()", x.step(), o.step(new boolean[o.count()]));
                acts.add(was);
                return o;
            case 3: case 4:
                boolean changed = o.change(place);
                Check.due(name + " change()", x.change(place), changed ? o.line.get(place) : -1);
                return keepAct(changed, o, was, acts);
            case 5: case 6:
                boolean drilled = o.drill(w, more);
                Check.due(name + " drill()", x.drill(w, more), !o.has(w) ? -1 : drilled ? o.strides[w] : -3);
                return keepAct(drilled, o, was, acts);
            case 7: case 8:
                boolean rescued = o.rescue(w);
                Check.due(name + " rescue()", x.rescue(w), !o.has(w) ? -1 : rescued ? o.count() - o.standing() : -3);
                return keepAct(rescued, o, was, acts);
            case 9:
                Check.due(name + " undo()", x.undo(), acts.isEmpty() ? -3 : acts.size() - 1);
                return acts.isEmpty() ? o : acts.remove(acts.size() - 1);
            case 10:
                kept[slot] = new Oracle(o);
                Check.due(name + " keep()", x.keep(slot), o.t);
                return o;
            default:
                Check.due(name + " again()", x.again(slot), kept[slot] == null ? -3 : kept[slot].t);
                if (kept[slot] == null) {
                    return o;
                }
                acts.clear();
                return new Oracle(kept[slot]);
        }
    }

    private static Oracle keepAct(boolean done, Oracle o, Oracle was, java.util.ArrayList<Oracle> acts) {
        if (done) {
            acts.add(was);
        }
        return o;
    }

    private static void compare(String name, PassInStep x, Oracle o, int acts) {
        state(name, x, o, acts);
        int n = next(21);
        Check.due(name + " ahead", x.ahead(n), (1 << o.count()) - 1 & ~o.after(n).downBits());
        int[] lines = o.lines();
        Check.due(name + " lines(false)", x.lines(false), lines[0]);
        Check.due(name + " lines(true)", x.lines(true), lines[1]);
        Check.due(name + " drills", x.drills(), o.drills());
        Check.due(name + " likes", x.likes(), o.likes());
        judges(name, x, o);
        int m = next(6);
        int tenths = next(11);
        long[] stumbles = o.stumbles(m, tenths);
        fraction(name + " stumbles", x.stumbles(m, tenths, true), x.stumbles(m, tenths, false), stumbles[0], stumbles[1]);
        for (int w = 0; w < o.count(); w++) {
            Check.due(name + " drops", x.drops(w), o.drops(w));
            int[] share = o.share(w);
            fraction(name + " share", x.share(w, true), x.share(w, false), share[0], share[1]);
            for (int v = 0; v < o.count(); v++) {
                pair(name + " of " + w + " and " + v, x, o, w, v);
            }
        }
        state(name + ", nothing is changed", x, o, acts);
    }

    private static void state(String name, PassInStep x, Oracle o, int acts) {
        int strain = 0;
        for (int w = 0; w < o.count(); w++) {
            int[] due = {o.strides[w], o.beats[w], o.kinds[w], o.strains[w], o.down[w] ? 1 : 0, o.line.indexOf(w),
                o.down[w] ? -9 : o.tread(w, new boolean[o.count()])};
            for (int what = 0; what < due.length; what++) {
                Check.due(name + " walker " + w + " what " + what, x.walker(w, what), due[what]);
            }
            strain += o.strains[w];
            Check.due(name + " line " + w, x.line(w), o.line.get(w));
        }
        int[] due = {o.count(), o.t, o.t < o.noon ? o.depth : o.behind, o.downBits(), strain, acts};
        for (int what = 0; what < due.length; what++) {
            Check.due(name + " about " + what, x.about(what), due[what]);
        }
    }

    private static void judges(String name, PassInStep x, Oracle o) {
        for (int i = 0; i < 6; i++) {
            int n = 1 + next(4);
            StringBuilder figures = new StringBuilder();
            for (int k = 0; k < n; k++) {
                int what = next(5);
                boolean plain = what != 2;
                figures.append(what).append(plain ? next(20) / 19 : next(5));
                figures.append(what == 0 ? next(20) / 19 : what == 2 ? next(20) / 19 + next(2) : next(5));
            }
            String told = figures.toString();
            Check.due(name + " judge " + told, x.judge(n, Long.parseLong(told)), o.judge(n, told));
        }
    }

    private static void pair(String name, PassInStep x, Oracle o, int one, int other) {
        Check.due(name + " fallsIn", x.fallsIn(one, other), one == other ? -2 : o.fallsIn(one, other));
        boolean bad = one == other;
        boolean late = o.down[one] || o.down[other];
        int[] rests = bad || late ? new int[2] : o.rests(one, other);
        for (int what = 0; what < 2; what++) {
            Check.due(name + " rests " + what, x.rests(one, other, what), bad ? -2 : late ? -3 : rests[what]);
        }
    }

    private static void fraction(String name, long above, long below, long dueAbove, long dueBelow) {
        Check.isTrue(name + ", of " + dueAbove + " by " + dueBelow + ": " + above + " by " + below,
            below > 0 && above * dueBelow == dueAbove * below);
        Check.isTrue(name + " is in least terms: " + above + " by " + below,
            java.math.BigInteger.valueOf(above).gcd(java.math.BigInteger.valueOf(below)).longValue() == 1);
    }
}
