import java.util.function.Supplier;
import java.util.function.ToLongFunction;

/** REFUSALS, of several what is told first, and what changes nothing: what is refused, and what is only asked. */
final class RefusalTests {
    private static final int UNKNOWN = -1, BAD = -2, LATE = -3, FULL = -4;
    private static final int LEAST = Integer.MIN_VALUE, MOST = Integer.MAX_VALUE;

    public static void main(String[] args) {
        refusedOfANewObject();
        refusedOfNobody();
        refusedOfThree();
        refusedWhenFull();
        twoUnknown();
        badAheadOfLate();
        asked();
        askedOfNobody();
        seedAlone();
        Check.finish("RefusalTests");
    }

    /** A call answers what is due, and an object is behind it as one that was never asked. */
    private static void call(String told, Supplier<PassInStep> made, ToLongFunction<PassInStep> call, long due) {
        PassInStep x = made.get();
        Check.due(told, call.applyAsLong(x), due);
        Check.isTrue(told + " changes nothing", State.whole(x).equals(State.whole(made.get())));
    }

    private static void isAsked(String told, Supplier<PassInStep> made, ToLongFunction<PassInStep> call) {
        PassInStep x = made.get();
        long answer = call.applyAsLong(x);
        Check.due(told + " answers so again", call.applyAsLong(x), answer);
        Check.isTrue(told + " changes nothing", State.whole(x).equals(State.whole(made.get())));
    }

    /** Walkers 0 and 2 are down; two acts; slot 1 is kept; two marks; a seed; a text that is another party. */
    private static PassInStep three() {
        PassInStep x = Check.party("P404W510W410W910");
        x.keep(1);
        x.step();
        x.drill(1, false);
        x.mark(0, 4);
        x.mark(1, 3);
        x.seed(-77);
        Check.write(x, "P928W321");
        return x;
    }

    /** 14 acts and more were made, 6 marks, 48 bytes, of them the 25th a fault; strain is 5, strides are 1 and 9. */
    private static PassInStep full() {
        PassInStep x = Check.party("P909W510W410W810");
        for (int i = 0; i < 5; i++) {
            x.drill(0, i % 2 == 0);
        }
        for (int i = 0; i < 3; i++) {
            x.drill(1, false);
        }
        x.drill(2, true);
        x.change(0);
        x.change(1);
        x.keep(0);
        for (int i = 0; i < 5; i++) {
            x.change(i % 2);
        }
        for (int i = 0; i < 6; i++) {
            x.mark(0, 4);
        }
        StringBuilder text = new StringBuilder("P909W510W410W810W111W111");
        while (text.length() < 48) {
            text.append("W111");
        }
        Check.write(x, text.toString());
        Check.due("acts are full", x.about(5), 14);
        Check.due("the text is full", x.about(7), 48);
        return x;
    }

    private static PassInStep nobody() {
        PassInStep x = Check.party("P345");
        x.step();
        x.keep(0);
        x.mark(2, 2);
        return x;
    }

    private static void refusedOfANewObject() {
        Supplier<PassInStep> made = PassInStep::new;
        call("5: LATE: an empty text is a FAULT", made, x -> x.party(), LATE);
        call("13: LATE: there is no ACT", made, x -> x.undo(), LATE);
        call("30: LATE: nothing was kept in 0", made, x -> x.again(0), LATE);
        call("30: LATE: nothing was kept in 1", made, x -> x.again(1), LATE);
        call("7: UNKNOWN: there is nobody", made, x -> x.walker(0, 0), UNKNOWN);
        call("20: BAD: n 0", made, x -> x.judge(0, 0), BAD);
    }

    private static void refusedOfNobody() {
        Supplier<PassInStep> made = RefusalTests::nobody;
        call("7: UNKNOWN, of nobody", made, x -> x.walker(0, 0), UNKNOWN);
        call("8: UNKNOWN, of nobody", made, x -> x.line(0), UNKNOWN);
        call("10: UNKNOWN, of nobody", made, x -> x.change(0), UNKNOWN);
        call("11: UNKNOWN, of nobody", made, x -> x.drill(0, true), UNKNOWN);
        call("12: UNKNOWN, of nobody", made, x -> x.rescue(0), UNKNOWN);
        call("15: UNKNOWN, of nobody", made, x -> x.drops(0), UNKNOWN);
        call("18: UNKNOWN, of nobody", made, x -> x.fallsIn(0, 1), UNKNOWN);
        call("21: UNKNOWN, of nobody", made, x -> x.share(0, true), UNKNOWN);
        call("25: UNKNOWN, of nobody", made, x -> x.rests(0, 1, 0), UNKNOWN);
    }

    private static void refusedOfThree() {
        Supplier<PassInStep> made = RefusalTests::three;
        for (int w : new int[] {-1, 3, 4, 5, 32, 33, LEAST, MOST}) {
            call("7: UNKNOWN walker " + w, made, x -> x.walker(w, 0), UNKNOWN);
            call("7: UNKNOWN is told ahead of BAD, " + w, made, x -> x.walker(w, 7), UNKNOWN);
            call("7: UNKNOWN is told ahead of BAD below, " + w, made, x -> x.walker(w, -1), UNKNOWN);
            call("8: UNKNOWN place " + w, made, x -> x.line(w), UNKNOWN);
            call("10: UNKNOWN place " + w, made, x -> x.change(w), UNKNOWN);
            call("11: UNKNOWN, more, " + w, made, x -> x.drill(w, true), UNKNOWN);
            call("11: UNKNOWN, less, " + w, made, x -> x.drill(w, false), UNKNOWN);
            call("12: UNKNOWN " + w, made, x -> x.rescue(w), UNKNOWN);
            call("15: UNKNOWN " + w, made, x -> x.drops(w), UNKNOWN);
            call("21: UNKNOWN, upper, " + w, made, x -> x.share(w, true), UNKNOWN);
            call("21: UNKNOWN, below, " + w, made, x -> x.share(w, false), UNKNOWN);
        }
        call("10: UNKNOWN: there is no next one", made, x -> x.change(2), UNKNOWN);
        for (boolean more : new boolean[] {false, true}) {
            call("11: LATE: 0 is DOWN, " + more, made, x -> x.drill(0, more), LATE);
            call("11: LATE: 2 is DOWN, " + more, made, x -> x.drill(2, more), LATE);
        }
        call("12: LATE: it is not DOWN", made, x -> x.rescue(1), LATE);
        for (int what : new int[] {-1, 8, 9, LEAST, MOST}) {
            call("6: BAD what " + what, made, x -> x.about(what), BAD);
        }
        for (int what : new int[] {-1, 7, 8, LEAST, MOST}) {
            call("7: BAD what " + what, made, x -> x.walker(1, what), BAD);
        }
        for (int n : new int[] {-1, 21, 22, LEAST, MOST}) {
            call("14: BAD n " + n, made, x -> x.ahead(n), BAD);
        }
        call("30: LATE: slot 0 was not kept, slot 1 was", made, x -> x.again(0), LATE);
        for (int slot : new int[] {-1, 2, 3, 32, 33, LEAST, MOST}) {
            call("29: UNKNOWN " + slot, made, x -> x.keep(slot), UNKNOWN);
            call("30: UNKNOWN " + slot, made, x -> x.again(slot), UNKNOWN);
        }
        refusedNumbers(made);
    }

    private static void refusedNumbers(Supplier<PassInStep> made) {
        for (int letter : new int[] {-1, 256, 257, LEAST, MOST}) {
            call("2: BAD " + letter, made, x -> x.write(letter), BAD);
        }
        for (int n : new int[] {-1, 0, 5, 6, LEAST, MOST}) {
            call("20: BAD n " + n, made, x -> x.judge(n, 0), BAD);
        }
        long bound = 1;
        for (int n = 1; n <= 4; n++) {
            bound = bound * 1000;
            int doings = n;
            for (long row : new long[] {-1, bound, bound + 1, Long.MIN_VALUE, Long.MAX_VALUE}) {
                call("20: BAD row " + row + " of " + n, made, x -> x.judge(doings, row), BAD);
            }
        }
        for (int t : new int[] {-1, 21, LEAST, MOST}) {
            call("22: BAD t " + t, made, x -> x.mark(t, 0), BAD);
        }
        for (int v : new int[] {-1, 13, LEAST, MOST}) {
            call("22: BAD v " + v, made, x -> x.mark(0, v), BAD);
        }
        for (int what : new int[] {-1, 2, LEAST, MOST}) {
            call("24: BAD what " + what, made, x -> x.whose(what), BAD);
        }
        for (int m : new int[] {-1, 6, LEAST, MOST}) {
            call("26: BAD m " + m, made, x -> x.stumbles(m, 0, true), BAD);
            call("26: BAD m below " + m, made, x -> x.stumbles(m, 0, false), BAD);
        }
        for (int tenths : new int[] {-1, 11, LEAST, MOST}) {
            call("26: BAD x " + tenths, made, x -> x.stumbles(0, tenths, true), BAD);
            call("26: BAD x below " + tenths, made, x -> x.stumbles(0, tenths, false), BAD);
        }
        for (int m : new int[] {-1, 0, 31, 32, LEAST, MOST}) {
            call("28: BAD m " + m, made, x -> x.winters(m), BAD);
        }
    }

    private static void refusedWhenFull() {
        Supplier<PassInStep> made = RefusalTests::full;
        call("2: FULL", made, x -> x.write('P'), FULL);
        call("2: FULL, byte 0", made, x -> x.write(0), FULL);
        call("2: FULL, byte 255", made, x -> x.write(255), FULL);
        call("2: BAD is told ahead of FULL, -1", made, x -> x.write(-1), BAD);
        call("2: BAD is told ahead of FULL, 256", made, x -> x.write(256), BAD);
        call("5: LATE: a text of 48 has a FAULT", made, x -> x.party(), LATE);
        call("22: FULL", made, x -> x.mark(0, 4), FULL);
        call("22: FULL, another one", made, x -> x.mark(20, 12), FULL);
        for (int bad : new int[] {-1, 21}) {
            call("22: BAD t is told ahead of FULL, " + bad, made, x -> x.mark(bad, 0), BAD);
        }
        for (int bad : new int[] {-1, 13}) {
            call("22: BAD v is told ahead of FULL, " + bad, made, x -> x.mark(0, bad), BAD);
        }
        call("11: LATE: STRAIN is 5, more", made, x -> x.drill(0, true), LATE);
        call("11: LATE: STRAIN is 5, less", made, x -> x.drill(0, false), LATE);
        call("11: LATE: a STRIDE of 1", made, x -> x.drill(1, false), LATE);
        call("11: LATE: a STRIDE of 9", made, x -> x.drill(2, true), LATE);
        call("10: UNKNOWN, ACTS are full", made, x -> x.change(2), UNKNOWN);
        call("12: LATE, ACTS are full", made, x -> x.rescue(0), LATE);
        call("30: LATE, ACTS are full", made, x -> x.again(1), LATE);
    }

    private static void twoUnknown() {
        Supplier<PassInStep> made = RefusalTests::three;
        int[][] pairs = {{-1, 1}, {1, -1}, {3, 1}, {1, 3}, {-1, -1}, {3, 3}, {LEAST, MOST}, {33, 33}, {-1, 3}};
        for (int[] pair : pairs) {
            String told = pair[0] + " and " + pair[1];
            call("18: UNKNOWN is told first: " + told, made, x -> x.fallsIn(pair[0], pair[1]), UNKNOWN);
            for (int what = -1; what <= 2; what++) {
                int asked = what;
                call("25: UNKNOWN is told first: " + told, made, x -> x.rests(pair[0], pair[1], asked), UNKNOWN);
            }
        }
        call("25: UNKNOWN is told ahead of LATE, the one", made, x -> x.rests(3, 0, 0), UNKNOWN);
        call("25: UNKNOWN is told ahead of LATE, the other", made, x -> x.rests(0, 3, 0), UNKNOWN);
    }

    private static void badAheadOfLate() {
        Supplier<PassInStep> made = RefusalTests::three;
        for (int walker = 0; walker < 3; walker++) {
            int w = walker;
            call("18: BAD: both are " + w, made, x -> x.fallsIn(w, w), BAD);
            call("25: BAD: both are " + w, made, x -> x.rests(w, w, 0), BAD);
        }
        for (int what : new int[] {-1, 2, LEAST, MOST}) {
            call("25: BAD is told ahead of LATE, what " + what, made, x -> x.rests(0, 1, what), BAD);
            call("25: BAD what of two that stand " + what, RefusalTests::full, x -> x.rests(0, 1, what), BAD);
        }
        for (int what = 0; what < 2; what++) {
            int asked = what;
            call("25: LATE: the one is DOWN", made, x -> x.rests(0, 1, asked), LATE);
            call("25: LATE: the other is DOWN", made, x -> x.rests(1, 2, asked), LATE);
            call("25: LATE: both are DOWN", made, x -> x.rests(2, 0, asked), LATE);
        }
    }

    private static void asked() {
        for (Supplier<PassInStep> made : java.util.List.<Supplier<PassInStep>>of(RefusalTests::three, RefusalTests::full)) {
            for (int n : new int[] {0, 1, 6, 20}) {
                isAsked("14: ahead(" + n + ")", made, x -> x.ahead(n));
            }
            for (int walker = 0; walker < 3; walker++) {
                int w = walker;
                isAsked("7: walker(" + w + ", 6)", made, x -> x.walker(w, 6));
                isAsked("15: drops(" + w + ")", made, x -> x.drops(w));
                isAsked("21: share(" + w + ")", made, x -> x.share(w, true));
                isAsked("18: fallsIn(" + w + ")", made, x -> x.fallsIn(w, (w + 1) % 3));
                isAsked("25: rests(" + w + ")", made, x -> x.rests(w, (w + 1) % 3, 0));
            }
            isAsked("16: lines(false)", made, x -> x.lines(false));
            isAsked("16: lines(true)", made, x -> x.lines(true));
            isAsked("17: drills()", made, x -> x.drills());
            isAsked("19: likes()", made, x -> x.likes());
            isAsked("20: judge, all that can be", made, x -> x.judge(4, 300_100_211_000L));
            isAsked("20: judge of strain", made, x -> x.judge(4, 211_210_101_000L));
            isAsked("24: whose(0)", made, x -> x.whose(0));
            isAsked("24: whose(1)", made, x -> x.whose(1));
            isAsked("26: stumbles(2, 5)", made, x -> x.stumbles(2, 5, true));
            isAsked("4: fault()", made, x -> x.fault());
        }
    }

    private static void askedOfNobody() {
        Supplier<PassInStep> made = RefusalTests::nobody;
        isAsked("14: ahead(20) of nobody", made, x -> x.ahead(20));
        isAsked("16: lines(true) of nobody", made, x -> x.lines(true));
        isAsked("17: drills() of nobody", made, x -> x.drills());
        isAsked("20: judge(4, 0) of nobody", made, x -> x.judge(4, 0));
        isAsked("26: stumbles(0, 5) of nobody", made, x -> x.stumbles(0, 5, false));
    }

    /** WINTERS: nothing changes but THE SEED. */
    private static void seedAlone() {
        for (int run = 0; run < 60; run++) {
            int m = 1 + run % 30;
            long seed = run * 0x9E3779B97F4A7C15L;
            for (Supplier<PassInStep> made
                : java.util.List.<Supplier<PassInStep>>of(RefusalTests::three, RefusalTests::full, RefusalTests::nobody)) {
                PassInStep x = made.get();
                PassInStep y = made.get();
                x.seed(seed);
                x.winters(m);
                long now = seed;
                for (int i = 0; i < m; i++) {
                    now = now * 6364136223846793005L + 1442695040888963407L;
                }
                y.seed(now);
                Check.isTrue("28: winters(" + m + ") changes THE SEED alone", State.whole(x).equals(State.whole(y)));
            }
        }
    }
}
