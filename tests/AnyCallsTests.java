/** Runs of 512 calls with any arguments: nothing is ever thrown, and refusals change nothing. */
final class AnyCallsTests {
    private static final int[] INTS = {0, 1, 2, 3, 4, 5, 6, 7, 8, 12, 13, 20, 21, 30, 31, 32, 33, 64, 255, 256, -1, -2,
        -31, -32, 1000, Integer.MAX_VALUE, Integer.MIN_VALUE, Integer.MAX_VALUE - 1, 1 << 30};
    private static final long[] LONGS = {0, 1, 300, 1000, 301302, 999_999_999_999L, 1_000_000_000_000L, -1,
        Long.MAX_VALUE, Long.MIN_VALUE, 100_000_210_211L};
    private static final String[] TEXTS = {"", "P", "P909W510W512W423W531W510", "P404W510", "P135W111W942", "P999x", "P111"};
    private static long state = 3;

    public static void main(String[] args) {
        for (int run = 0; run < 400; run++) {
            anyCalls(run);
        }
        Check.finish("AnyCallsTests");
    }

    private static int next(int bound) {
        state = state * 6364136223846793005L + 1442695040888963407L;
        return (int) Long.remainderUnsigned(state >>> 17, bound);
    }

    private static int any() {
        return next(3) > 0 ? INTS[next(8)] : INTS[next(INTS.length)];
    }

    private static void anyCalls(int run) {
        PassInStep x = new PassInStep();
        Check.write(x, TEXTS[run % TEXTS.length]);
        x.party();
        for (int i = 0; i < 470; i++) {
            int call = next(29);
            String before = about(x);
            long answer = call(x, call);
            if (isRefusal(call, answer)) {
                Check.isTrue("run " + run + " call " + call + " refused changes nothing", before.equals(about(x)));
            }
        }
        Check.isTrue("run " + run + ": at most five walkers", x.about(0) <= 5);
    }

    private static boolean isRefusal(int call, long answer) {
        return call != 26 && answer <= PassInStep.UNKNOWN && answer >= PassInStep.FULL;
    }

    private static String about(PassInStep x) {
        StringBuilder all = new StringBuilder();
        for (int what = 0; what < 8; what++) {
            all.append(x.about(what)).append(' ');
        }
        for (int walker = 0; walker < 5; walker++) {
            all.append(x.line(walker)).append(' ').append(x.walker(walker, 0)).append(' ');
        }
        return all.toString();
    }

    private static long call(PassInStep x, int call) {
        boolean flag = next(2) == 0;
        return call < 14 ? firstCalls(x, call, flag) : laterCalls(x, call, flag);
    }

    private static long firstCalls(PassInStep x, int call, boolean flag) {
        switch (call) {
            case 0: return x.write(any());
            case 1: return next(20) == 0 ? x.wipe() : 0;
            case 2: return x.fault();
            case 3: return next(20) == 0 ? x.party() : 0;
            case 4: return x.about(any());
            case 5: return x.walker(any(), any());
            case 6: return x.line(any());
            case 7: return x.step();
            case 8: return x.change(any());
            case 9: return x.drill(any(), flag);
            case 10: return x.rescue(any());
            case 11: return x.undo();
            case 12: return x.ahead(any());
            default: return x.drops(any());
        }
    }

    private static long laterCalls(PassInStep x, int call, boolean flag) {
        switch (call) {
            case 14: return x.lines(flag);
            case 15: return x.drills();
            case 16: return x.fallsIn(any(), any());
            case 17: return x.likes();
            case 18: return x.judge(any(), LONGS[next(LONGS.length)]);
            case 19: return flag ? 0 : x.share(any(), next(2) == 0);
            case 20: return x.mark(any(), any());
            case 21: return x.snowed();
            case 22: return x.whose(any());
            case 23: return x.rests(any(), any(), any());
            case 24: return x.stumbles(any(), any(), true);
            case 25: return x.stumbles(any(), any(), false);
            case 26: return x.seed(LONGS[next(LONGS.length)]);
            case 27: return x.winters(any());
            default: return flag ? x.keep(any()) : x.again(any());
        }
    }
}
