/** Promises 14 to 21: steps to come. */
final class StepsToComeTests {
    public static void main(String[] args) {
        ahead();
        drops();
        lines();
        drills();
        fallsIn();
        likes();
        judgeEachDoing();
        judgeRows();
        share();
        Check.finish("StepsToComeTests");
    }

    private static void ahead() {
        PassInStep x = Check.party("P992W510W543W510");
        Check.due("14: ahead(0)", x.ahead(0), 7);
        Check.due("14: ahead(1)", x.ahead(1), 7);
        Check.due("14: ahead(2)", x.ahead(2), 5);
        Check.due("14: ahead(9)", x.ahead(9), 5);
        Check.due("14: ahead(10)", x.ahead(10), 0);
        Check.due("14: ahead(20)", x.ahead(20), 0);
        Check.due("14: ahead(21)", x.ahead(21), PassInStep.BAD);
        Check.due("14: ahead(-1)", x.ahead(-1), PassInStep.BAD);
        Check.due("14: nothing is changed", x.about(1) + x.about(3) + x.about(5), 0);
        x.step();
        Check.due("14: from now", x.ahead(1), 5);
        Check.due("14: nobody", new PassInStep().ahead(20), 0);
    }

    private static void drops() {
        PassInStep x = Check.party("P992W510W543W410W111");
        Check.due("15: the first one behind noon", x.drops(0), 10);
        Check.due("15: a drunkard", x.drops(1), 2);
        Check.due("15: at once", x.drops(2), 1);
        x.step();
        Check.due("15: now", x.drops(2), 0);
        Check.due("15: from now", x.drops(0), 9);
        Check.due("15: drops(4)", x.drops(4), PassInStep.UNKNOWN);
        Check.due("15: drops(-1)", x.drops(-1), PassInStep.UNKNOWN);
        Check.due("15: none", Check.party("P909W510").drops(0), PassInStep.NONE);
        Check.due("15: a step behind", Check.party("P191W110").drops(0), PassInStep.NONE);
    }

    private static void linesOf(PassInStep x, int most, int order) {
        Check.due("16: how many", x.lines(false), most);
        Check.due("16: the order", x.lines(true), order);
    }

    private static void lines() {
        linesOf(new PassInStep(), 0, 0);
        linesOf(Check.party("P909W510"), 1, 1);
        linesOf(Check.party("P909W510W410W510"), 2, 123);
        linesOf(Check.party("P909W410W510W510"), 2, 213);
        linesOf(Check.party("P404W510W410"), 1, 12);
        linesOf(Check.party("P909W412W410W412W310W310"), 4, 41235);
        PassInStep x = Check.party("P909W410W510W510");
        x.change(1);
        linesOf(x, 2, 213);
        Check.due("16: nothing is changed", x.line(1), 2);
        x.step();
        Check.due("16: who is down", x.about(3), 6);
        linesOf(x, 1, 123);
        linesOf(Check.party("P953W310W510W510"), 1, 123);
        linesOf(Check.party("P953W510W510W311"), 1, 312);
        linesOf(Check.party("P963W310W510W510"), 2, 213);
    }

    private static void drills() {
        Check.due("17: nobody", new PassInStep().drills(), 0);
        Check.due("17: in step", Check.party("P909W510W510").drills(), 0);
        Check.due("17: one", Check.party("P909W510W610").drills(), 1);
        Check.due("17: two", Check.party("P909W510W710").drills(), 2);
        Check.due("17: both by two", Check.party("P909W510W910").drills(), 4);
        Check.due("17: too far", Check.party("P909W410W910").drills(), PassInStep.NONE);
        Check.due("17: the snow", Check.party("P404W610").drills(), 2);
        Check.due("17: too deep", Check.party("P404W710").drills(), PassInStep.NONE);
        Check.due("17: a wolf that is first", Check.party("P404W412").drills(), 1);
        Check.due("17: a wolf behind", Check.party("P404W410W912").drills(), 0);
        Check.due("17: lame and plain", Check.party("P909W510W511").drills(), PassInStep.NONE);
        Check.due("17: a lame one's tread of 0", Check.party("P909W111").drills(), 1);
        Check.due("17: all by two", Check.party("P303W510W510W510W510W510").drills(), 10);
        Check.due("17: strides of 1 at least", Check.party("P101W112").drills(), PassInStep.NONE);
        Check.due("17: in the sixth step the snow is another one", Check.party("P953W510").drills(), 2);
        Check.due("17: in the seventh it does not matter", Check.party("P963W510").drills(), 0);
        PassInStep x = Check.party("P909W510W610W510");
        x.step();
        Check.due("17: who is down stays so", x.drills(), 0);
        x = Check.party("P909W510W610");
        for (int i = 0; i < 5; i++) {
            x.drill(0, i % 2 == 0);
        }
        x.drill(1, false);
        Check.due("17: strain is set aside", x.drills(), 1);
        Check.due("17: nothing is changed", x.walker(1, 0), 5);
    }

    private static void fallsIn() {
        PassInStep x = Check.party("P909W410W343W910W842W433");
        Check.due("18: at once", x.fallsIn(0, 4), 0);
        Check.due("18: in a step", x.fallsIn(0, 1), 1);
        Check.due("18: either way", x.fallsIn(1, 0), 1);
        Check.due("18: none", x.fallsIn(0, 2), PassInStep.NONE);
        Check.due("18: a wolf as if nobody was ahead", x.fallsIn(2, 3), 0);
        Check.due("18: two beats", x.fallsIn(1, 4), 9);
        Check.due("18: UNKNOWN the one", x.fallsIn(5, 0), PassInStep.UNKNOWN);
        Check.due("18: UNKNOWN the other", x.fallsIn(0, -1), PassInStep.UNKNOWN);
        Check.due("18: UNKNOWN ahead of BAD", x.fallsIn(5, 5), PassInStep.UNKNOWN);
        Check.due("18: BAD", x.fallsIn(1, 1), PassInStep.BAD);
        Check.steps(x, 2);
        Check.due("18: from now", x.fallsIn(0, 1), 3);
        Check.due("18: who is down too", x.fallsIn(1, 4), 7);
        x.drill(0, true);
        Check.due("18: by strides as drilled", x.fallsIn(0, 1), 0);
    }

    private static void likes() {
        Check.due("19: behind noon", Check.party("P904").likes(), 4);
        Check.due("19: ahead of noon", Check.party("P964").likes(), 9);
        Check.due("19: in the sixth step", Check.party("P954").likes(), 4);
        PassInStep x = Check.party("P426");
        Check.due("19: the least of both", x.likes(), 4);
        x.step();
        Check.due("19: a step ahead", x.likes(), 4);
        x.step();
        Check.due("19: behind", x.likes(), 6);
    }

    private static void judgeEachDoing() {
        PassInStep x = Check.party("P404W510W410W910");
        x.step();
        Check.due("20: who is down", x.about(3), 5);
        int none = PassInStep.NONE;
        int[][] due = {
            {0, none}, {1, 0}, {10, 0}, {100, none}, {101, none}, {102, 0}, {110, 0}, {200, 0}, {210, none},
            {211, none}, {212, 0}, {220, 0}, {230, 0}, {300, none}, {301, 0}, {302, none}, {303, 0}, {310, 0},
            {400, 0}, {401, none}, {403, 0}, {411, 0}, {500, 0}, {900, 0}, {999, 0}};
        for (int[] doing : due) {
            Check.due("20: judge(1, " + doing[0] + ")", x.judge(1, doing[0]), doing[1]);
        }
    }

    private static void judgeRows() {
        PassInStep x = Check.party("P404W510W410W910");
        Check.due("20: one by one", x.judge(4, 300_302_402L), PassInStep.NONE);
        Check.due("20: the second", x.judge(2, 400L), 1);
        Check.due("20: the third", x.judge(3, 301L), 2);
        Check.due("20: the first of two", x.judge(3, 301_301L), 1);
        Check.due("20: the last", x.judge(4, 210_210_210_210L), 3);
        Check.due("20: a line's order", x.judge(3, 100_000_401L), PassInStep.NONE);
        Check.due("20: n 0", x.judge(0, 0), PassInStep.BAD);
        Check.due("20: n 5", x.judge(5, 0), PassInStep.BAD);
        Check.due("20: row less than 0", x.judge(1, -1), PassInStep.BAD);
        Check.due("20: the least row", x.judge(4, Long.MIN_VALUE), PassInStep.BAD);
        Check.due("20: a figure too many", x.judge(1, 1000), PassInStep.BAD);
        Check.due("20: a figure too many of four", x.judge(4, 1_000_000_000_000L), PassInStep.BAD);
        Check.due("20: the greatest row", x.judge(4, 999_999_999_999L), 0);
        Check.due("20: n 0 with a row", x.judge(Integer.MIN_VALUE, Long.MAX_VALUE), PassInStep.BAD);
        Check.due("20: nothing is changed", x.about(1) + x.about(3) + x.about(4), 0);
        for (int i = 0; i < 4; i++) {
            x.drill(1, i % 2 == 0);
        }
        Check.due("20: strain counts", x.judge(3, 210_211_000L), 1);
    }

    private static void shareOf(PassInStep x, int walker, int above, int below) {
        Check.fraction("21: share of " + walker, x.share(walker, true), x.share(walker, false), above, below);
    }

    private static void share() {
        PassInStep x = Check.party("P909W510W510");
        shareOf(x, 0, 1, 1);
        shareOf(x, 1, 1, 1);
        x = Check.party("P909W510W410");
        shareOf(x, 0, 1, 2);
        shareOf(x, 1, 1, 2);
        x = Check.party("P909W510W410W410W410");
        shareOf(x, 0, -1, 2);
        x = Check.party("P909W510W410W410");
        shareOf(x, 0, 0, 1);
        shareOf(x, 1, 1, 2);
        x = Check.party("P404W510W410");
        shareOf(x, 0, 0, 1);
        shareOf(x, 1, 1, 1);
        x.step();
        shareOf(x, 0, 0, 1);
        x.rescue(0);
        shareOf(x, 0, 0, 1);
        x = Check.party("P953W510");
        shareOf(x, 0, 0, 1);
        x = Check.party("P963W510");
        shareOf(x, 0, 1, 1);
        Check.due("21: share(1, true)", x.share(1, true), PassInStep.UNKNOWN);
        Check.due("21: share(-1, false)", x.share(-1, false), PassInStep.UNKNOWN);
        Check.due("21: nothing is changed", x.about(1) + x.about(3), 0);
    }
}
