/** Promises 29 and 30: kept, and gone on from. */
final class SlotsTests {
    public static void main(String[] args) {
        keepAndAgain();
        twoSlots();
        whatIsNotKept();
        refused();
        Check.finish("SlotsTests");
    }

    private static PassInStep yard() {
        PassInStep x = Check.party("P404W510W410W310W410");
        x.change(1);
        x.drill(2, true);
        x.step();
        Check.due("29: one is down", x.about(3), 1);
        return x;
    }

    private static void isYard(PassInStep x) {
        int[] line = {0, 2, 1, 3};
        for (int place = 0; place < 4; place++) {
            Check.due("30: the line at " + place, x.line(place), line[place]);
        }
        Check.due("30: strides", x.walker(2, 0), 4);
        Check.due("30: strain", x.walker(2, 3), 1);
        Check.due("30: strain of all", x.about(4), 1);
        Check.due("30: who is down", x.about(3), 1);
        Check.due("30: the step", x.about(1), 1);
    }

    private static void spoil(PassInStep x) {
        x.rescue(0);
        x.change(0);
        x.drill(3, false);
        x.drill(2, true);
        x.step();
        x.step();
    }

    private static void keepAndAgain() {
        PassInStep x = yard();
        Check.due("29: keep(0)", x.keep(0), 1);
        Check.due("29: acts stay", x.about(5), 3);
        spoil(x);
        Check.due("29: what is kept stays, the yard goes on", x.about(1), 3);
        Check.due("30: again(0)", x.again(0), 1);
        isYard(x);
        Check.due("30: no acts", x.about(5), 0);
        Check.due("30: nothing to undo", x.undo(), PassInStep.LATE);
        spoil(x);
        Check.due("30: once more", x.again(0), 1);
        isYard(x);
        x.step();
        Check.due("30: acts go on", x.undo(), 0);
        isYard(x);
    }

    private static void twoSlots() {
        PassInStep x = yard();
        Check.due("29: keep(1)", x.keep(1), 1);
        spoil(x);
        Check.due("29: keep(0)", x.keep(0), 3);
        Check.due("30: again(1)", x.again(1), 1);
        isYard(x);
        Check.due("30: again(0)", x.again(0), 3);
        Check.due("30: the other one", x.line(0), 1);
        x.again(1);
        Check.due("29: kept over", x.keep(0), 1);
        Check.due("30: again(0) kept over", x.again(0), 1);
        isYard(x);
    }

    private static void whatIsNotKept() {
        PassInStep x = Check.party("P909W510");
        x.keep(0);
        x.seed(5);
        x.mark(1, 1);
        x.write('W');
        x.again(0);
        Check.due("30: marks stay", x.about(6), 1);
        Check.due("30: the text stays", x.about(7), 9);
        Check.due("30: the seed stays", x.seed(0), 5);
    }

    private static void refused() {
        PassInStep x = Check.party("P909W510");
        int[] unknown = {-1, 2, 32, Integer.MIN_VALUE, Integer.MAX_VALUE};
        for (int slot : unknown) {
            Check.due("29: keep(" + slot + ")", x.keep(slot), PassInStep.UNKNOWN);
            Check.due("30: again(" + slot + ")", x.again(slot), PassInStep.UNKNOWN);
        }
        Check.due("30: none were kept", x.again(0), PassInStep.LATE);
        x.step();
        x.keep(1);
        Check.due("30: none were kept in that one", x.again(0), PassInStep.LATE);
        Check.due("30: LATE changes nothing", x.about(5), 1);
        Check.due("30: kept in this one", x.again(1), 1);
    }
}
