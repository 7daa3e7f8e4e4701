/** Each bound of promises 14 to 21: below it, at it, above it; nobody, all down; how many steps are looked at. */
final class StepsToComeEdgesTests {
    private static final int NONE = PassInStep.NONE, BAD = PassInStep.BAD;

    public static void main(String[] args) {
        aheadOfEachN();
        aheadBounds();
        dropsInEachN();
        dropsNowAndNone();
        linesOfSixSteps();
        linesOfLikeOnes();
        linesOfThoseDown();
        drillsOf2AtMost();
        drillsOfEachStride();
        drillsOfSixSteps();
        drillsOfThoseDown();
        drillsSetStrainAside();
        fallsInEachN();
        fallsInOfAnyTwo();
        likesByNoon();
        likesEachDepth();
        judgeEachDoing();
        judgeBounds();
        judgePlaces();
        judgeOneBehindAnother();
        judgeOfNobody();
        shareBounds();
        shareOfSixSteps();
        shareLessThan0();
        shareOfThoseDown();
        Check.finish("StepsToComeEdgesTests");
    }

    private static void aheadOfEachN() {
        String[] texts = {"P111", "P593W342W310W533W431", "P781W722W842W743W710W711", "P909W543W533W522W510W511"};
        for (String text : texts) {
            for (int begun = 0; begun < 4; begun++) {
                PassInStep x = Check.party(text);
                PassInStep y = Check.party(text);
                Check.steps(x, begun);
                Check.steps(y, begun);
                for (int n = 0; n <= 20; n++) {
                    int due = (1 << y.about(0)) - 1 & ~y.about(3);
                    Check.due("14: ahead(" + n + ") of " + text + " from step " + begun, x.ahead(n), due);
                    y.step();
                }
            }
        }
    }

    private static void aheadBounds() {
        PassInStep x = Check.party("P593W342");
        int[][] due = {{-1, BAD}, {0, 1}, {1, 1}, {12, 1}, {13, 0}, {19, 0}, {20, 0}, {21, BAD}, {22, BAD},
            {Integer.MAX_VALUE, BAD}, {Integer.MIN_VALUE, BAD}};
        for (int[] each : due) {
            Check.due("14: ahead(" + each[0] + ")", x.ahead(each[0]), each[1]);
        }
        x = Check.party("P909W510W510W510W510W510");
        Check.due("14: all five, 0", x.ahead(0), 31);
        Check.due("14: all five, 20", x.ahead(20), 31);
        x = Check.party("P101W510W510W510W510W510");
        Check.due("14: in no steps nobody is DOWN", x.ahead(0), 31);
        Check.due("14: in one all are", x.ahead(1), 0);
        x.step();
        x.rescue(3);
        Check.due("14: as bits", x.ahead(0), 8);
    }

    /** No party drops later than in the 13th step from its first: treads come again after 12, noon is 9 at most. */
    private static void dropsInEachN() {
        String[] texts = {"P548W532", "P694W131", "P932W833", "P533W540", "P442W313", "P955W722", "P963W830", "P771W311",
            "P381W311", "P491W330", "P593W243", "P795W343", "P593W342"};
        for (int n = 1; n <= 13; n++) {
            PassInStep x = Check.party(texts[n - 1]);
            for (int begun = 0; begun <= n; begun++) {
                Check.due("15: " + texts[n - 1] + " from step " + begun, x.drops(0), n - begun);
                x.step();
            }
            Check.due("15: 0: now, and later", x.drops(0), 0);
        }
    }

    private static void dropsNowAndNone() {
        PassInStep x = Check.party("P404W510W410W310");
        Check.due("15: in one step", x.drops(0), 1);
        Check.due("15: NONE", x.drops(1), NONE);
        Check.due("15: who is not in step", x.drops(2), 1);
        x.step();
        Check.due("15: 0: now", x.drops(0), 0);
        Check.due("15: NONE stays", x.drops(1), NONE);
        x.rescue(0);
        Check.due("15: RESCUED it drops in one", x.drops(0), 1);
        Check.due("15: -1", x.drops(-1), PassInStep.UNKNOWN);
        Check.due("15: 3", x.drops(3), PassInStep.UNKNOWN);
        Check.due("15: the greatest", x.drops(Integer.MAX_VALUE), PassInStep.UNKNOWN);
    }

    private static void linesOf(String told, PassInStep x, int most, int order) {
        Check.due("16: how many, " + told, x.lines(false), most);
        Check.due("16: the order, " + told, x.lines(true), order);
    }

    private static void linesOfSixSteps() {
        // Of two that tread not alike the one that the snow holds behind noon is the better one to be first.
        linesOf("noon in the sixth step", Check.party("P953W510W310"), 1, 21);
        linesOf("noon in the seventh step", Check.party("P963W510W310"), 1, 12);
        PassInStep x = Check.party("P973W510W310");
        linesOf("noon in the eighth step", x, 1, 12);
        x.change(0);
        linesOf("whatever THE LINE is", x, 1, 12);
        x.change(0);
        x.step();
        x.rescue(1);
        linesOf("noon in the seventh step from now", x, 1, 12);
        x.step();
        x.rescue(1);
        linesOf("noon in the sixth step from now", x, 1, 21);
    }

    private static void linesOfLikeOnes() {
        linesOf("nobody", Check.party("P111"), 0, 0);
        linesOf("one", Check.party("P111W110"), 1, 1);
        linesOf("one that drops", Check.party("P111W910"), 0, 1);
        linesOf("two", Check.party("P909W510W510"), 2, 12);
        linesOf("none is held", Check.party("P101W510W510W510W510W510"), 0, 12345);
        linesOf("five in step", Check.party("P909W510W510W510W510W510"), 5, 12345);
        linesOf("three of one tread, two of another", Check.party("P909W510W410W510W410W510"), 3, 12345);
        linesOf("the other one", Check.party("P909W510W410W510W410W410"), 3, 21345);
        linesOf("the last one is the better first", Check.party("P909W412W512W612W712W310"), 5, 51234);
        linesOf("a wolf at its beat", Check.party("P909W412W512W612W310W712"), 5, 41235);
    }

    private static void linesOfThoseDown() {
        PassInStep x = Check.party("P404W510W410W610");
        x.step();
        Check.due("16: two are DOWN", x.about(3), 5);
        linesOf("who is DOWN stays so", x, 1, 123);
        x.rescue(2);
        Check.due("16: it is DOWN again if it is last", x.ahead(1), 2);
        linesOf("a rescued one of no use", x, 1, 123);
        x.drill(1, true);
        x.step();
        Check.due("16: all are DOWN", x.about(3), 7);
        linesOf("all are DOWN", x, 0, 123);
        x.change(0);
        x.change(1);
        linesOf("all are DOWN in another order", x, 0, 123);
    }

    private static void drillsOf2AtMost() {
        int[][] due = {{5, 5, 0}, {5, 6, 1}, {6, 5, 1}, {5, 7, 2}, {7, 5, 2}, {5, 8, 3}, {8, 5, 3}, {5, 9, 4}, {9, 5, 4},
            {4, 9, NONE}, {9, 4, NONE}, {1, 5, 4}, {1, 6, NONE}, {1, 9, NONE}};
        for (int[] each : due) {
            Check.due("17: " + each[0] + " and " + each[1],
                Check.party("P909W" + each[0] + "10W" + each[1] + "10").drills(), each[2]);
        }
        for (int depth = 1; depth <= 9; depth++) {
            for (int stride = 1; stride <= 9; stride++) {
                int more = Math.max(0, stride - depth);
                Check.due("17: " + stride + " on snow of " + depth,
                    Check.party("P" + depth + "0" + depth + "W" + stride + "10").drills(), more > 2 ? NONE : more);
            }
        }
        Check.due("17: five, each by two", Check.party("P303W510W510W510W510W510").drills(), 10);
        Check.due("17: five, one by three", Check.party("P303W510W510W610W510W510").drills(), NONE);
        Check.due("17: the first by one", Check.party("P909W510W410W410W410W410").drills(), 1);
        Check.due("17: four by one", Check.party("P404W410W510W510W510W510").drills(), 4);
        Check.due("17: one by one, the first of five", Check.party("P909W310W410W410W410W410").drills(), 1);
        Check.due("17: in the midst", Check.party("P909W310W510W410").drills(), 2);
        Check.due("17: five from 3 to 7", Check.party("P909W310W410W510W610W710").drills(), 6);
    }

    private static void drillsOfEachStride() {
        Check.due("17: a lame one of 1", Check.party("P909W111").drills(), 1);
        Check.due("17: a lame one of 2", Check.party("P909W211").drills(), 0);
        Check.due("17: a wolf may not come to a stride of 0", Check.party("P101W112").drills(), NONE);
        Check.due("17: a wolf of 2 comes to 1", Check.party("P202W212").drills(), 1);
        Check.due("17: a wolf of 9 treads 10", Check.party("P909W912").drills(), 1);
        Check.due("17: a wolf of 8 treads 9", Check.party("P909W812").drills(), 0);
        Check.due("17: a drunkard of 9 treads 10", Check.party("P909W923").drills(), 1);
        Check.due("17: a drunkard of 9 treads 11", Check.party("P909W933").drills(), 2);
        Check.due("17: a drunkard of 9 treads 12", Check.party("P909W943").drills(), NONE);
        Check.due("17: two drunkards", Check.party("P909W543W743").drills(), 2);
        Check.due("17: two beats", Check.party("P909W543W533").drills(), NONE);
        Check.due("17: a drunkard of beat 1 is as a plain one", Check.party("P909W510W513").drills(), 0);
        Check.due("17: two lame ones", Check.party("P909W521W641").drills(), 1);
        Check.due("17: a wolf of beat 1 first", Check.party("P909W512W510").drills(), 1);
        Check.due("17: a wolf of beat 2 first, a lame one behind", Check.party("P909W522W511").drills(), 1);
    }

    private static void drillsOfSixSteps() {
        for (int noon = 0; noon <= 9; noon++) {
            PassInStep x = Check.party("P9" + noon + "4W510");
            for (int t = 0; t < 4 && t < noon; t++) {
                Check.due("17: noon " + noon + " from step " + t, x.drills(), noon <= t + 5 ? 1 : 0);
                x.step();
            }
        }
        Check.due("17: the snow of the first step alone", Check.party("P419W510").drills(), 1);
        Check.due("17: the snow of the first two steps", Check.party("P329W510").drills(), 2);
        PassInStep y = Check.party("P419W510");
        y.step();
        y.rescue(0);
        Check.due("17: the snow of the step that was does not matter", y.drills(), 0);
        y = Check.party("P909W111");
        y.step();
        y.step();
        y.rescue(0);
        Check.due("17: nor what was trod, a lame one drops in the second step from now", y.drills(), 1);
        Check.due("17: two drunkards, six steps are enough to tell", Check.party("P909W533W543").drills(), NONE);
        PassInStep x = Check.party("P909W533W543");
        Check.steps(x, 3);
        Check.due("17: all are still there", x.about(3), 0);
        Check.due("17: from step 3 on", x.drills(), NONE);
    }

    private static void drillsOfThoseDown() {
        Check.due("17: nobody", Check.party("P111").drills(), 0);
        PassInStep x = Check.party("P404W810W410W910W410");
        x.step();
        Check.due("17: two are DOWN", x.about(3), 5);
        Check.due("17: the others are in step", x.drills(), 0);
        x.drill(3, true);
        Check.due("17: one to be drilled", x.drills(), 1);
        x.rescue(0);
        Check.due("17: RESCUED it counts, and treads too much", x.drills(), NONE);
        x = Check.party("P404W910W910");
        x.step();
        Check.due("17: all are DOWN", x.drills(), 0);
    }

    private static void drillsSetStrainAside() {
        PassInStep x = Check.party("P909W510W710");
        for (int i = 0; i < 4; i++) {
            x.drill(0, i % 2 == 0);
            x.drill(1, i % 2 == 0);
        }
        Check.due("17: STRAIN 4, two drills", x.drills(), 2);
        x.drill(0, false);
        x.drill(1, true);
        Check.due("17: STRAIN 5", x.about(4), 10);
        Check.due("17: STRAIN 5, four drills", x.drills(), 4);
    }

    /** Treads come again after 12 steps, so no two fall in later than in 11; 24 are looked at. */
    private static void fallsInEachN() {
        String[] texts = {"W110W110", "W110W211", "W310W133", "W410W143", "W132W143", "W411W133", "W143W333", "W432W143",
            "W133W343", "W143W233"};
        for (int n = 0; n < texts.length; n++) {
            PassInStep x = Check.party("P909" + texts[n]);
            for (int begun = 0; begun <= n; begun++) {
                Check.due("18: " + texts[n] + " from step " + begun, x.fallsIn(0, 1), n - begun);
                Check.due("18: " + texts[n] + " told the other way", x.fallsIn(1, 0), n - begun);
                x.step();
            }
        }
        PassInStep x = Check.party("P909W132W243");
        Check.due("18: in step 0", x.fallsIn(0, 1), 0);
        for (int t = 1; t <= 12; t++) {
            x.step();
            Check.due("18: 12 comes again, from " + t, x.fallsIn(0, 1), 12 - t);
        }
        Check.due("18: NONE", Check.party("P909W110W210").fallsIn(0, 1), NONE);
        Check.due("18: NONE of lame ones", Check.party("P909W111W211").fallsIn(0, 1), NONE);
    }

    private static void fallsInOfAnyTwo() {
        PassInStep x = Check.party("P111W510W412W412W942W911");
        Check.due("18: a wolf as if nobody was ahead", x.fallsIn(0, 1), 0);
        Check.due("18: two wolves", x.fallsIn(1, 2), 0);
        Check.due("18: a wolf, and the one that it treads as", x.fallsIn(0, 3), NONE);
        Check.due("18: a wolf's tread of 10, a lame one's of 8", x.fallsIn(3, 4), 2);
        x.step();
        Check.due("18: who is DOWN", x.about(3), 31);
        Check.due("18: of those DOWN", x.fallsIn(0, 1), 0);
        Check.due("18: of those DOWN, from now", x.fallsIn(3, 4), 1);
        Check.due("18: the last two, 4 and 5", x.fallsIn(4, 5), PassInStep.UNKNOWN);
        Check.due("18: 4 and 4", x.fallsIn(4, 4), BAD);
        Check.due("18: 5 and 5", x.fallsIn(5, 5), PassInStep.UNKNOWN);
        Check.due("18: -1 and 0", x.fallsIn(-1, 0), PassInStep.UNKNOWN);
    }

    private static void likesByNoon() {
        for (int noon = 0; noon <= 9; noon++) {
            PassInStep x = Check.party("P4" + noon + "7");
            PassInStep y = Check.party("P7" + noon + "4");
            for (int t = 0; t <= 10; t++) {
                Check.due("19: deeper behind noon " + noon + ", step " + t, x.likes(), t < noon ? 4 : 7);
                Check.due("19: less deep behind noon " + noon + ", step " + t, y.likes(), t + 5 < noon ? 7 : 4);
                x.step();
                y.step();
            }
        }
    }

    private static void likesEachDepth() {
        for (int depth = 1; depth <= 9; depth++) {
            Check.due("19: " + depth, Check.party("P" + depth + "0" + depth).likes(), depth);
            Check.due("19: " + depth + " ahead of noon", Check.party("P" + depth + "99").likes(), depth);
        }
        Check.due("19: whoever walks", Check.party("P505W910W112").likes(), 5);
    }

    /** Who is down: 0 and 2, of three; 1 has a stride of 9, 0 of 5. */
    private static PassInStep threeToJudge() {
        PassInStep x = Check.party("P909W943W910W110");
        Check.steps(x, 2);
        x.rescue(1);
        Check.due("20: 0 and 2 are DOWN", x.about(3), 5);
        return x;
    }

    private static void judgeEachDoing() {
        PassInStep x = threeToJudge();
        String can = " 0 100 101 210 300 302 401 ";
        for (int doing = 0; doing <= 999; doing++) {
            boolean is = can.contains(" " + doing + " ");
            Check.due("20: judge(1, " + doing + ")", x.judge(1, doing), is ? NONE : 0);
            if (doing % 300 == 299) {
                x = threeToJudge();
            }
        }
        x = Check.party("P909W510W110W910W510W510");
        can = " 0 100 101 102 103 200 201 211 220 230 231 240 241 400 401 402 403 404 ";
        for (int doing = 0; doing <= 450; doing++) {
            boolean is = can.contains(" " + doing + " ");
            Check.due("20: of five, judge(1, " + doing + ")", x.judge(1, doing), is ? NONE : 0);
        }
    }

    private static void judgeBounds() {
        PassInStep x = Check.party("P909W510W510");
        long bound = 1;
        for (int n = 1; n <= 4; n++) {
            bound = bound * 1000;
            Check.due("20: row 0 of " + n, x.judge(n, 0), NONE);
            Check.due("20: row 1 of " + n, x.judge(n, 1), n - 1);
            Check.due("20: row -1 of " + n, x.judge(n, -1), BAD);
            Check.due("20: the greatest row of " + n, x.judge(n, bound - 1), 0);
            Check.due("20: a figure more of " + n, x.judge(n, bound), BAD);
            Check.due("20: the same figures without the noughts of " + n, x.judge(n, 101), n == 1 ? 0 : n - 1);
            Check.due("20: that can be, of " + n, x.judge(n, 100), NONE);
            Check.due("20: the first of " + n, x.judge(n, bound / 1000 * 999), 0);
            Check.due("20: the first can be, of " + n, x.judge(n, bound / 1000 * 401), NONE);
        }
        Check.due("20: n -1", x.judge(-1, 0), BAD);
        Check.due("20: n 0", x.judge(0, 0), BAD);
        Check.due("20: n 5", x.judge(5, 0), BAD);
        Check.due("20: the greatest long", x.judge(4, Long.MAX_VALUE), BAD);
        Check.due("20: the least long", x.judge(4, Long.MIN_VALUE), BAD);
        Check.due("20: 2 to the power of 32", x.judge(1, 1L << 32), BAD);
        Check.due("20: 2 to the power of 32 of four", x.judge(4, 1L << 32), 0);
    }

    private static void judgePlaces() {
        PassInStep x = Check.party("P909W510W510");
        Check.due("20: the place 0", x.judge(4, 999_000_000_000L), 0);
        Check.due("20: the place 1", x.judge(4, 999_000_000L), 1);
        Check.due("20: the place 2", x.judge(4, 999_000L), 2);
        Check.due("20: the place 3", x.judge(4, 999L), 3);
        Check.due("20: the first of many", x.judge(4, 400_999_999_999L), 1);
        Check.due("20: NONE of four", x.judge(4, 400_401_100_201L), NONE);
    }

    private static void judgeOneBehindAnother() {
        PassInStep x = Check.party("P404W510W410W310");
        Check.due("20: it is not DOWN ahead of the step", x.judge(2, 400_000L), NONE);
        Check.due("20: behind it it is", x.judge(2, 400L), 1);
        Check.due("20: it can be RESCUED then", x.judge(3, 300_400L), NONE);
        Check.due("20: once", x.judge(3, 300_300L), 2);
        Check.due("20: DRILLED less first it stays", x.judge(3, 200_000_400L), NONE);
        Check.due("20: who is DOWN can not be DRILLED", x.judge(2, 201L), 1);
        Check.due("20: CHANGED: then 1 is first, and 0 drops", x.judge(3, 100_000_400L), 2);
        Check.due("20: CHANGED twice", x.judge(4, 100_100_000_401L), NONE);
        x = Check.party("P909W810W210");
        Check.due("20: DRILLED to 9 and no more", x.judge(2, 201_201L), 1);
        Check.due("20: DRILLED to 1 and no less", x.judge(2, 210_210L), 1);
        Check.due("20: each by itself", x.judge(2, 201_210L), NONE);
        for (int i = 0; i < 3; i++) {
            x.drill(0, i % 2 != 0);
        }
        Check.due("20: STRAIN 5 by two more", x.judge(2, 200_201L), NONE);
        Check.due("20: STRAIN 5, the third can not be", x.judge(3, 200_201_200L), 2);
        Check.due("20: of STRAIN nothing is changed", x.walker(0, 3), 3);
        x = Check.party("P404W510W410");
        x.step();
        Check.due("20: a rescued one is the last one", x.judge(4, 300_000_400_000L), 2);
        Check.due("20: DRILLED in time", x.judge(4, 300_200_000_400L), NONE);
    }

    private static void judgeOfNobody() {
        PassInStep x = new PassInStep();
        Check.due("20: four STEPS of nobody", x.judge(4, 0), NONE);
        for (int doing : new int[] {1, 10, 100, 200, 201, 300, 400, 500}) {
            Check.due("20: of nobody " + doing, x.judge(1, doing), 0);
        }
        x = Check.party("P909W510");
        Check.due("20: one has no next one", x.judge(1, 100), 0);
        Check.due("20: one is not DOWN", x.judge(1, 400), NONE);
        Check.due("20: one can not be RESCUED", x.judge(1, 300), 0);
    }

    private static void shareOf(String told, PassInStep x, int walker, int above, int below) {
        Check.fraction("21: " + told, x.share(walker, true), x.share(walker, false), above, below);
    }

    private static void shareBounds() {
        PassInStep x = Check.party("P909W510");
        shareOf("one alone", x, 0, 1, 1);
        Check.due("21: 1 of one", x.share(1, true), PassInStep.UNKNOWN);
        Check.due("21: -1 of one", x.share(-1, true), PassInStep.UNKNOWN);
        shareOf("one that drops", Check.party("P101W510"), 0, 0, 1);
        x = Check.party("P909W510W510W510W510W510");
        for (int walker = 0; walker < 5; walker++) {
            shareOf("five in step, " + walker, x, walker, 1, 1);
        }
        x = Check.party("P909W510W510W510W510W410");
        shareOf("the last of five is through just if it comes first", x, 4, 1, 5);
        // 4 first and then 3: one more, and one that drops by it.
        shareOf("one of the four, in all orders but 1 of 20", x, 3, 19, 20);
    }

    private static void shareOfSixSteps() {
        shareOf("noon in the sixth step", Check.party("P954W510"), 0, 0, 1);
        shareOf("noon in the seventh step", Check.party("P964W510"), 0, 1, 1);
        PassInStep x = Check.party("P964W510");
        x.step();
        shareOf("noon in the sixth step from now", x, 0, 0, 1);
    }

    private static void shareLessThan0() {
        PassInStep x = Check.party("P909W510W410W410");
        shareOf("two behind that drop by it", x, 0, 0, 1);
        x = Check.party("P909W510W410W410W410");
        shareOf("three behind", x, 0, -1, 2);
        x = Check.party("P909W510W410W410W410W410");
        shareOf("four behind", x, 0, -1, 1);
        shareOf("one of the four", x, 4, 1, 2);
    }

    private static void shareOfThoseDown() {
        PassInStep x = Check.party("P404W510W410W410");
        x.step();
        shareOf("who is DOWN is of no use", x, 0, 0, 1);
        shareOf("others see it not", x, 1, 1, 1);
        x.change(0);
        shareOf("wherever it is", x, 0, 0, 1);
        x.rescue(0);
        x.drill(0, false);
        shareOf("RESCUED and DRILLED", x, 0, 1, 1);
        x = Check.party("P909W510W410");
        shareOf("THE LINE else as it is", x, 1, 1, 2);
        shareOf("ahead of one that drops by it", x, 0, 1, 2);
        x.step();
        Check.due("21: who was not in step is DOWN", x.about(3), 2);
        shareOf("who is DOWN stays so, if it came first too", x, 1, 0, 1);
        shareOf("then nobody drops by the one ahead", x, 0, 1, 1);
        x = Check.party("P909W510W410W510");
        x.change(0);
        shareOf("4 ahead of two of 5", x, 1, 0, 1);
    }
}
