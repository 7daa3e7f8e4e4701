/** Counts answers that are due, prints those that are not. */
final class Check {
    private static int passed = 0;
    private static int failed = 0;

    static void due(String what, long got, long want) {
        if (got == want) {
            passed++;
        } else {
            failed++;
            System.out.println("  " + what + ": answered " + got + ", due is " + want);
        }
    }

    static void isTrue(String what, boolean holds) {
        due(what, holds ? 1 : 0, 1);
    }

    static void write(PassInStep x, String text) {
        x.wipe();
        for (int i = 0; i < text.length(); i++) {
            x.write(text.charAt(i));
        }
    }

    static PassInStep party(String text) {
        PassInStep x = new PassInStep();
        write(x, text);
        due("party() of " + text, x.party(), (text.length() - 4) / 4);
        return x;
    }

    static void steps(PassInStep x, int n) {
        for (int i = 0; i < n; i++) {
            x.step();
        }
    }

    /** A fraction's two parts are due. */
    static void fraction(String what, int above, int below, int wantAbove, int wantBelow) {
        due(what + " above", above, wantAbove);
        due(what + " below", below, wantBelow);
    }

    static void finish(String name) {
        System.out.println(name + ": " + passed + " answers as due, " + failed + " not");
        if (failed > 0) {
            System.exit(1);
        }
    }
}
