/** Promises 9 to 13: steps, changes, drills, rescues, and all undone. */
final class ActsTests {
    public static void main(String[] args) {
        stepOfTheFirst();
        stepOfOthers();
        change();
        drill();
        rescue();
        undo();
        firstActIsForgotten();
        refusalsAreNoActs();
        Check.finish("ActsTests");
    }

    private static void stepOfTheFirst() {
        Check.due("9: nobody", new PassInStep().step(), 0);
        Check.due("9: snow holds its depth", Check.party("P505W510").step(), 0);
        Check.due("9: snow does not hold more", Check.party("P404W510").step(), 1);
        PassInStep x = Check.party("P931W210");
        Check.steps(x, 3);
        Check.due("9: nobody drops ahead of noon", x.about(3), 0);
        Check.due("9: the snow behind noon", x.step(), 1);
        x = Check.party("P909W111");
        Check.due("9: a tread of 1", x.step(), 0);
        Check.due("9: a tread of 0", x.step(), 1);
        x = Check.party("P404W510W510W410W410");
        Check.due("9: each that is first then is held by snow", x.step(), 2);
        Check.due("9: who dropped", x.about(3), 3);
        Check.due("9: one more step", x.about(1), 1);
    }

    private static void stepOfOthers() {
        PassInStep x = Check.party("P909W510W410W510W512W510");
        Check.due("9: only the nearest that is not down counts", x.step(), 1);
        Check.due("9: who dropped", x.about(3), 2);
        x = Check.party("P909W510W922W543W510");
        Check.due("9: wolves tread as others do", x.step(), 0);
        Check.due("9: a drunkard drops by its beat", x.step(), 1);
        Check.due("9: it was the drunkard", x.about(3), 4);
        x = Check.party("P505W510W512");
        x.change(0);
        Check.due("9: a wolf that is first can drop", x.step(), 1);
        Check.due("9: it was the wolf", x.about(3), 2);
    }

    private static void change() {
        PassInStep x = Check.party("P909W510W510W510");
        Check.due("10: change(0)", x.change(0), 1);
        Check.due("10: change(1)", x.change(1), 2);
        Check.due("10: the line", x.line(2), 0);
        Check.due("10: change(2)", x.change(2), PassInStep.UNKNOWN);
        Check.due("10: change(-1)", x.change(-1), PassInStep.UNKNOWN);
        Check.due("10: the greatest place", x.change(Integer.MAX_VALUE), PassInStep.UNKNOWN);
        Check.due("10: nobody", new PassInStep().change(0), PassInStep.UNKNOWN);
        x = Check.party("P404W510W410");
        x.step();
        Check.due("10: who is down changes too", x.change(0), 1);
    }

    private static void drill() {
        PassInStep x = Check.party("P909W810W210W510");
        Check.due("11: more", x.drill(0, true), 9);
        Check.due("11: not more than 9", x.drill(0, true), PassInStep.LATE);
        Check.due("11: less", x.drill(1, false), 1);
        Check.due("11: not less than 1", x.drill(1, false), PassInStep.LATE);
        Check.due("11: what is refused is no strain", x.walker(1, 3), 1);
        for (int i = 0; i < 5; i++) {
            Check.due("11: strain " + i, x.drill(2, i % 2 == 0), i % 2 == 0 ? 6 : 5);
        }
        Check.due("11: strain is 5", x.drill(2, false), PassInStep.LATE);
        Check.due("11: strain of that one", x.walker(2, 3), 5);
        Check.due("11: drill(3, true)", x.drill(3, true), PassInStep.UNKNOWN);
        Check.due("11: drill(-1, true)", x.drill(-1, true), PassInStep.UNKNOWN);
        x = Check.party("P404W510");
        x.step();
        Check.due("11: down", x.drill(0, false), PassInStep.LATE);
    }

    private static void rescue() {
        PassInStep x = Check.party("P404W510W410W510");
        Check.due("12: nobody is down", x.rescue(0), PassInStep.LATE);
        x.step();
        Check.due("12: rescue(0)", x.rescue(0), 1);
        int[] line = {1, 2, 0};
        for (int place = 0; place < 3; place++) {
            Check.due("12: the last one in the line, " + place, x.line(place), line[place]);
        }
        Check.due("12: it is not down", x.walker(0, 4), 0);
        Check.due("12: it was rescued", x.rescue(0), PassInStep.LATE);
        Check.due("12: rescue(2)", x.rescue(2), 0);
        Check.due("12: rescue(3)", x.rescue(3), PassInStep.UNKNOWN);
        Check.due("12: rescue(-1)", x.rescue(-1), PassInStep.UNKNOWN);
        Check.due("12: rescues are acts", x.about(5), 3);
    }

    private static void undo() {
        PassInStep x = Check.party("P404W510W410W310");
        x.change(1);
        x.drill(1, false);
        x.step();
        x.rescue(0);
        Check.due("13: a rescue", x.undo(), 3);
        Check.due("13: it is down", x.about(3), 1);
        Check.due("13: where it was", x.line(0), 0);
        Check.due("13: a step", x.undo(), 2);
        Check.due("13: nobody is down", x.about(3), 0);
        Check.due("13: the step", x.about(1), 0);
        Check.due("13: a drill", x.undo(), 1);
        Check.due("13: the stride", x.walker(1, 0), 4);
        Check.due("13: the strain", x.walker(1, 3), 0);
        Check.due("13: a change", x.undo(), 0);
        Check.due("13: the line", x.line(1), 1);
        Check.due("13: there is none", x.undo(), PassInStep.LATE);
    }

    private static void firstActIsForgotten() {
        PassInStep x = Check.party("P909W510W510");
        x.drill(0, true);
        Check.steps(x, 3);
        for (int i = 0; i < 14; i++) {
            x.change(0);
        }
        Check.due("13: 14 acts at most", x.about(5), 14);
        x.step();
        for (int left = 13; left >= 0; left--) {
            Check.due("13: undone", x.undo(), left);
        }
        Check.due("13: the rest is forgotten", x.undo(), PassInStep.LATE);
        Check.due("13: steps stay", x.about(1), 3);
        Check.due("13: the drill stays", x.walker(0, 0), 6);
        Check.due("13: the first of 15 stays", x.line(0), 1);
        x.step();
        Check.due("13: acts go on", x.undo(), 0);
    }

    private static void refusalsAreNoActs() {
        PassInStep x = Check.party("P909W910");
        x.change(0);
        x.drill(0, true);
        x.drill(1, true);
        x.rescue(0);
        x.rescue(1);
        x.keep(0);
        x.mark(0, 0);
        x.winters(5);
        Check.due("13: no acts", x.about(5), 0);
    }
}
