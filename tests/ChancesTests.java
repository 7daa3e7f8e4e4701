/** Promises 25 to 28: rests, stumbles, the seed and winters. */
final class ChancesTests {
    public static void main(String[] args) {
        rests();
        restsRefused();
        stumbles();
        stumblesRefused();
        seed();
        winters();
        wintersChangeNothingElse();
        Check.finish("ChancesTests");
    }

    private static void restsOf(PassInStep x, int one, int other, int pairs, int first) {
        Check.due("25: rests(" + one + ", " + other + ", 0)", x.rests(one, other, 0), pairs);
        Check.due("25: rests(" + one + ", " + other + ", 1)", x.rests(one, other, 1), first);
    }

    private static void rests() {
        restsOf(Check.party("P909W510W510"), 0, 1, 1, 0);
        restsOf(Check.party("P909W510W610"), 0, 1, 1, 0);
        restsOf(Check.party("P909W610W510"), 0, 1, 1, 1);
        restsOf(Check.party("P909W610W510"), 1, 0, 1, 10);
        // A lame leader of stride 1 drops at its odd step: it drills, and who treads so goes with it.
        restsOf(Check.party("P909W111W111"), 0, 1, 1, 11);
        // One more in step, less 1 for the drill: both choices are alike.
        restsOf(Check.party("P909W510W423"), 0, 1, 2, 0);
        // A stride of 9 stays 9, and drilling costs all the same.
        restsOf(Check.party("P909W910W910"), 0, 1, 1, 0);
        restsOf(Check.party("P909W910W810"), 0, 1, 1, 1);
        // Behind 8 steps the snow does not matter, in the eighth it does.
        restsOf(Check.party("P984W510W510"), 0, 1, 1, 0);
        PassInStep x = Check.party("P909W610W510W510");
        x.drill(1, true);
        restsOf(x, 0, 1, 1, 0);
        restsOf(x, 1, 2, 1, 1);
        for (int i = 0; i < 4; i++) {
            x.drill(1, i % 2 != 0);
        }
        x.drill(0, true);
        Check.due("25: strain 5", x.walker(1, 3), 5);
        restsOf(x, 1, 2, 1, 10);
        Check.due("25: nothing is changed", x.walker(1, 0), 6);
    }

    private static void restsRefused() {
        PassInStep x = Check.party("P909W510W410W510");
        Check.due("25: UNKNOWN the one", x.rests(3, 0, 0), PassInStep.UNKNOWN);
        Check.due("25: UNKNOWN the other", x.rests(0, -1, 0), PassInStep.UNKNOWN);
        Check.due("25: UNKNOWN ahead of BAD", x.rests(3, 3, 5), PassInStep.UNKNOWN);
        Check.due("25: both are one", x.rests(1, 1, 0), PassInStep.BAD);
        Check.due("25: what 2", x.rests(0, 1, 2), PassInStep.BAD);
        Check.due("25: what -1", x.rests(0, 1, -1), PassInStep.BAD);
        x.step();
        Check.due("25: the other is down", x.rests(0, 1, 0), PassInStep.LATE);
        Check.due("25: the one is down", x.rests(1, 2, 1), PassInStep.LATE);
        Check.due("25: BAD ahead of LATE", x.rests(1, 2, 2), PassInStep.BAD);
        Check.due("25: neither is down", x.rests(0, 2, 0), 1);
    }

    private static void stumblesOf(PassInStep x, int m, int tenths, int above, int below) {
        String call = "26: stumbles(" + m + ", " + tenths + ")";
        Check.fraction(call, x.stumbles(m, tenths, true), x.stumbles(m, tenths, false), above, below);
    }

    private static void stumbles() {
        PassInStep x = Check.party("P909W510W510");
        stumblesOf(x, 2, 3, 29, 50);
        stumblesOf(x, 1, 3, 1, 1);
        stumblesOf(x, 0, 3, 1, 1);
        stumblesOf(x, 3, 3, 0, 1);
        stumblesOf(x, 2, 0, 1, 1);
        stumblesOf(x, 2, 10, 1, 1);
        stumblesOf(Check.party("P909W510W512W510"), 3, 3, 29, 50);
        stumblesOf(Check.party("P909W510W512W510"), 2, 3, 1, 1);
        x = Check.party("P505W510");
        stumblesOf(x, 1, 3, 7, 10);
        stumblesOf(x, 1, 10, 0, 1);
        stumblesOf(x, 1, 0, 1, 1);
        stumblesOf(Check.party("P606W512"), 1, 10, 1, 1);
        x = Check.party("P909W111");
        x.step();
        stumblesOf(x, 1, 3, 3, 10);
        x = Check.party("P404W510W410W310");
        x.step();
        Check.due("26: who is down", x.about(3), 5);
        stumblesOf(x, 1, 1, 9, 10);
        stumblesOf(Check.party("P909W510W510W510W510W510"), 5, 1, 1181, 2000);
        stumblesOf(new PassInStep(), 0, 7, 1, 1);
        stumblesOf(new PassInStep(), 1, 7, 0, 1);
    }

    private static void stumblesRefused() {
        PassInStep x = Check.party("P909W510");
        int[][] bad = {{-1, 0}, {6, 0}, {0, -1}, {0, 11}};
        for (int[] call : bad) {
            Check.due("26: m " + call[0] + ", x " + call[1], x.stumbles(call[0], call[1], true), PassInStep.BAD);
        }
        Check.due("26: more than there are", x.stumbles(5, 10, true), 0);
    }

    private static void seed() {
        PassInStep x = new PassInStep();
        Check.due("27: at first", x.seed(Long.MIN_VALUE), 0);
        Check.due("27: the least", x.seed(Long.MAX_VALUE), Long.MIN_VALUE);
        Check.due("27: the greatest", x.seed(-3), Long.MAX_VALUE);
        Check.due("27: less than 0", x.seed(0), -3);
    }

    /** A winter told once more, on calls of the class itself. */
    private static int together(String text, long seed, int m, int ahead) {
        PassInStep x = Check.party(text);
        Check.steps(x, ahead);
        long weather = seed;
        int together = 0;
        for (int i = 0; i < m; i++) {
            weather = weather * 6364136223846793005L + 1442695040888963407L;
            int left = (int) Long.remainderUnsigned(weather >>> 33, 20);
            if (left <= 4) {
                x.drill(left, true);
            } else if (left <= 8) {
                x.change(left - 5);
            } else if (left <= 13) {
                x.rescue(left - 9);
            } else {
                x.step();
            }
            together += Integer.bitCount(x.ahead(0));
        }
        return together;
    }

    private static void winters() {
        PassInStep x = new PassInStep();
        Check.due("28: m 0", x.winters(0), PassInStep.BAD);
        Check.due("28: m 31", x.winters(31), PassInStep.BAD);
        Check.due("28: m less than 0", x.winters(-1), PassInStep.BAD);
        Check.due("28: BAD changes nothing", x.seed(0), 0);
        Check.due("28: nobody", x.winters(1), 0);
        Check.due("28: the seed goes on", x.seed(0), 1442695040888963407L);
        String[] texts = {"P909W510W510", "P635W410W421W532W313", "P984W111W842W533W610W712", "P505W510"};
        for (int i = 0; i < 60; i++) {
            String text = texts[i % texts.length];
            int m = 1 + i % 30;
            long seed = i * 0x9E3779B97F4A7C15L;
            PassInStep y = Check.party(text);
            Check.steps(y, i % 3);
            y.seed(seed);
            Check.due("28: winters(" + m + ") of " + text, y.winters(m), together(text, seed, m, i % 3));
        }
    }

    private static void wintersChangeNothingElse() {
        PassInStep x = Check.party("P635W410W421W532W313");
        x.keep(0);
        for (int i = 0; i < 10; i++) {
            x.winters(30);
        }
        for (int what = 3; what <= 6; what++) {
            Check.due("28: about(" + what + ")", x.about(what), 0);
        }
        for (int walker = 0; walker < 4; walker++) {
            Check.due("28: the line", x.line(walker), walker);
        }
        Check.due("28: the step", x.about(1), 0);
        x.seed(0);
        long old = 0;
        x.winters(2);
        for (int i = 0; i < 2; i++) {
            old = old * 6364136223846793005L + 1442695040888963407L;
        }
        Check.due("28: the seed is gone on m times", x.seed(0), old);
    }
}
