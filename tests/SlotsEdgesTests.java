/** SLOTS 0 .. 1: below, at, above; none kept, kept twice, gone; each thing that they keep, and what they do not. */
final class SlotsEdgesTests {
    private static final int UNKNOWN = PassInStep.UNKNOWN, LATE = PassInStep.LATE;

    public static void main(String[] args) {
        whichSlots();
        noneWereKept();
        nobody();
        eachThingKept();
        eachSlotByItself();
        keptTwice();
        noActs();
        actsStayWhenKept();
        goneByAParty();
        notKept();
        keptWhenFull();
        Check.finish("SlotsEdgesTests");
    }

    private static void whichSlots() {
        for (int slot = -3; slot <= 5; slot++) {
            PassInStep x = Check.party("P909W510");
            x.step();
            boolean is = slot == 0 || slot == 1;
            Check.due("29: keep(" + slot + ")", x.keep(slot), is ? 1 : UNKNOWN);
            Check.due("30: again(" + slot + ")", x.again(slot), is ? 1 : UNKNOWN);
            Check.due("30: ACTS behind again(" + slot + ")", x.about(5), is ? 0 : 1);
        }
        PassInStep x = Check.party("P909W510");
        x.keep(0);
        x.keep(1);
        for (int slot : new int[] {-1, 2, 31, 32, 33, 64, 1 << 30, Integer.MIN_VALUE, Integer.MAX_VALUE}) {
            Check.due("30: both are kept, again(" + slot + ")", x.again(slot), UNKNOWN);
            Check.due("29: both are kept, keep(" + slot + ")", x.keep(slot), UNKNOWN);
        }
    }

    private static void noneWereKept() {
        PassInStep x = Check.party("P909W510");
        Check.due("30: LATE 0", x.again(0), LATE);
        Check.due("30: LATE 1", x.again(1), LATE);
        Check.due("30: UNKNOWN, not LATE", x.again(2), UNKNOWN);
        x.keep(0);
        Check.due("30: 0 was kept", x.again(0), 0);
        Check.due("30: 1 was not", x.again(1), LATE);
        x = Check.party("P909W510");
        x.keep(1);
        Check.due("30: 1 was kept", x.again(1), 0);
        Check.due("30: 0 was not", x.again(0), LATE);
    }

    private static void nobody() {
        PassInStep x = new PassInStep();
        Check.due("29: nobody's THE STEP", x.keep(0), 0);
        x.step();
        Check.due("29: nobody's next", x.keep(1), 1);
        x.step();
        Check.due("30: nobody's again", x.again(1), 1);
        Check.due("6: THE STEP", x.about(1), 1);
        Check.due("30: the first again", x.again(0), 0);
        Check.due("6: THE STEP is 0", x.about(1), 0);
    }

    private static void eachThingKept() {
        PassInStep x = Check.party("P404W510W410W310W410");
        x.change(1);
        x.drill(2, true);
        x.drill(3, false);
        x.step();
        String kept = State.ofYard(x);
        Check.due("29: THE STEP", x.keep(1), 1);
        x.change(0);
        Check.due("30: THE LINE", x.again(1) * 100 + x.line(0) * 10 + x.line(1), 102);
        x.drill(2, false);
        x.again(1);
        Check.due("30: a STRIDE", x.walker(2, 0), 4);
        Check.due("30: STRAIN of one", x.walker(2, 3), 1);
        Check.due("30: STRAIN of all", x.about(4), 2);
        x.rescue(0);
        x.again(1);
        Check.due("30: who is DOWN", x.about(3), 9);
        Check.due("30: it is where it was", x.walker(0, 5), 0);
        Check.steps(x, 9);
        Check.due("30: THE STEP", x.again(1), 1);
        Check.due("30: SNOW by THE STEP", x.about(2), 4);
        x.rescue(3);
        x.drill(1, true);
        x.change(2);
        x.step();
        x.again(1);
        Check.isTrue("30: all of it", kept.equals(State.ofYard(x)));
    }

    private static void eachSlotByItself() {
        PassInStep x = Check.party("P909W510W610");
        x.keep(0);
        String first = State.ofYard(x);
        x.step();
        x.drill(0, true);
        x.change(0);
        x.keep(1);
        String second = State.ofYard(x);
        x.step();
        for (int i = 0; i < 3; i++) {
            Check.due("30: THE STEP of 0", x.again(0), 0);
            Check.isTrue("30: as kept in 0", first.equals(State.ofYard(x)));
            x.step();
            x.drill(1, true);
            Check.due("30: THE STEP of 1", x.again(1), 1);
            Check.isTrue("30: as kept in 1", second.equals(State.ofYard(x)));
            x.rescue(1);
            x.drill(1, false);
        }
    }

    private static void keptTwice() {
        PassInStep x = Check.party("P909W510");
        for (int t = 0; t < 5; t++) {
            Check.due("29: kept over, " + t, x.keep(0), t);
            x.step();
        }
        Check.due("30: as it was kept last", x.again(0), 4);
        Check.due("29: kept when one has gone on", x.keep(1), 4);
        x.step();
        Check.due("29: kept over from further on", x.keep(1), 5);
        x.again(0);
        Check.due("30: the other one", x.again(1), 5);
    }

    private static void noActs() {
        PassInStep x = Check.party("P909W510");
        Check.steps(x, 20);
        x.keep(0);
        Check.due("29: ACTS stay", x.about(5), 14);
        x.again(0);
        Check.due("30: no ACTS", x.about(5), 0);
        Check.due("30: LATE to undo", x.undo(), LATE);
        Check.due("30: THE STEP stays", x.about(1), 20);
        for (int acts = 1; acts <= 15; acts++) {
            x.step();
            Check.due("30: ACTS from then on", x.about(5), Math.min(14, acts));
        }
        for (int left = 13; left >= 0; left--) {
            Check.due("30: undone from then on", x.undo(), left);
        }
        Check.due("30: not further than 14", x.about(1), 21);
        Check.due("30: LATE then", x.undo(), LATE);
    }

    private static void actsStayWhenKept() {
        PassInStep x = Check.party("P909W510");
        x.step();
        x.drill(0, true);
        x.keep(0);
        Check.due("29: undo behind keep", x.undo(), 1);
        Check.due("29: undone", x.walker(0, 0), 5);
        Check.due("29: undo ahead of keep", x.undo(), 0);
        Check.due("29: what was kept is not undone", x.again(0), 1);
        Check.due("30: as it was kept", x.walker(0, 0), 6);
        Check.due("30: again() is no ACT", x.undo(), LATE);
    }

    private static void goneByAParty() {
        PassInStep x = Check.party("P909W510");
        x.keep(0);
        x.keep(1);
        x.write('X');
        Check.due("5: LATE, what was kept is not gone", x.party(), LATE);
        Check.due("30: 0 is there", x.again(0), 0);
        Check.due("30: 1 is there", x.again(1), 0);
        Check.write(x, "P909");
        x.party();
        Check.due("30: 0 is gone", x.again(0), LATE);
        Check.due("30: 1 is gone", x.again(1), LATE);
        x.step();
        Check.due("29: kept anew", x.keep(1), 1);
        Check.due("30: 0 stays gone", x.again(0), LATE);
        Check.due("30: 1 is there anew", x.again(1), 1);
    }

    private static void notKept() {
        PassInStep x = Check.party("P404W510W410");
        x.seed(3);
        x.mark(0, 5);
        x.keep(0);
        x.winters(1);
        long seed = x.seed(0);
        x.seed(seed);
        x.mark(1, 4);
        x.write('W');
        x.again(0);
        Check.due("30: THE SEED goes on", x.seed(0), seed);
        Check.due("30: MARKS go on", x.about(6), 2);
        Check.due("30: what they say", x.whose(1), 151);
        Check.due("30: THE TEXT goes on", x.fault(), 13);
    }

    private static void keptWhenFull() {
        PassInStep x = Check.party("P101W510W510W510W510W510");
        for (int w = 0; w < 5; w++) {
            for (int i = 0; i < 5; i++) {
                x.drill(w, i % 2 == 0);
            }
        }
        x.change(3);
        x.change(0);
        x.step();
        x.keep(1);
        String kept = State.ofYard(x);
        for (int w = 4; w >= 0; w--) {
            x.rescue(w);
        }
        x.step();
        x.again(1);
        Check.isTrue("30: five walkers, STRAIN 25, all DOWN", kept.equals(State.ofYard(x)));
        Check.due("30: STRAIN of all", x.about(4), 25);
        Check.due("30: who is DOWN", x.about(3), 31);
        Check.due("11: STRAIN 5 holds behind again", x.rescue(0) * 10 + x.drill(0, true), 37);
    }
}
