/** Each bound that the document gives for THE TEXT, THE PARTY, TREADS and SNOW: below it, at it, above it. */
final class PartyEdgesTests {
    private static final String FIVE = "P345W110W211W422W733W943";
    private static final String[] HEAD = {"P", "123456789", "0123456789", "123456789"};
    private static final String[] WALKER = {"W", "123456789", "1234", "0123"};

    public static void main(String[] args) {
        aNewObjectIsNobody();
        aNewObjectGoesOn();
        bytes();
        textOf48();
        wipedWhenFull();
        eachByteAtEachPlace();
        noSixthWalker();
        lengthsAndFaults();
        theFirstFault();
        noneOrMoreWalkers();
        madeAnewOfEachSize();
        madeAnew();
        lateChangesNothing();
        aboutEach();
        treadOfPlainAndLame();
        treadOfDrunk();
        treadOfWolf();
        wolfBehindThoseDown();
        snowByNoon();
        Check.finish("PartyEdgesTests");
    }

    private static void aNewObjectIsNobody() {
        PassInStep x = new PassInStep();
        Check.due("1: nothing to wipe", x.wipe(), 0);
        Check.due("1: fault() is the length", x.fault(), 0);
        Check.due("1: no marks", x.snowed(), 0);
        Check.due("1: THE SEED is 0", x.seed(0), 0);
        Check.due("1: no ACTS", x.undo(), PassInStep.LATE);
        for (int slot = 0; slot < 2; slot++) {
            Check.due("1: no SLOT is kept", x.again(slot), PassInStep.LATE);
        }
        for (int n = 0; n <= 20; n++) {
            Check.due("1: ahead(" + n + ")", x.ahead(n), 0);
        }
        Check.due("1: no lines", x.lines(false) + x.lines(true), 0);
        Check.due("1: no drills", x.drills(), 0);
        Check.due("1: 108 there are", x.whose(0), 108);
        Check.due("1: nobody falls", x.step(), 0);
        Check.due("1: keep(0)", new PassInStep().keep(0), 0);
        Check.due("1: one object is not another", new PassInStep().about(5), 0);
    }

    private static void aNewObjectGoesOn() {
        PassInStep x = new PassInStep();
        for (int t = 0; t < 12; t++) {
            Check.due("1: DEPTHS are 1 in step " + t, x.about(2), 1);
            Check.due("1: a tread of 1 is liked in step " + t, x.likes(), 1);
            Check.due("1: the step", x.about(1), t);
            Check.due("1: a step of nobody", x.step(), 0);
        }
        Check.due("1: steps of nobody are ACTS", x.about(5), 12);
        x = new PassInStep();
        for (int call = 1; call < 512; call++) {
            x.step();
        }
        Check.due("1: the 512th call", x.about(1), 511);
    }

    private static void bytes() {
        for (int letter = -2; letter <= 257; letter++) {
            boolean isByte = letter >= 0 && letter <= 255;
            PassInStep x = new PassInStep();
            Check.due("2: write(" + letter + ")", x.write(letter), isByte ? 1 : PassInStep.BAD);
            Check.due("2: bytes behind write(" + letter + ")", x.about(7), isByte ? 1 : 0);
            Check.due("2: fault behind write(" + letter + ")", x.fault(), letter == 'P' ? 1 : 0);
        }
    }

    private static void textOf48() {
        PassInStep x = new PassInStep();
        for (int length = 1; length <= 47; length++) {
            x.write(0);
        }
        Check.due("2: the 47th", x.about(7), 47);
        Check.due("2: the 48th", x.write(255), 48);
        Check.due("2: the 49th", x.write(1), PassInStep.FULL);
        Check.due("2: the 50th", x.write(1), PassInStep.FULL);
        Check.due("2: 48 there are", x.about(7), 48);
        Check.due("2: -1 when it is full", x.write(-1), PassInStep.BAD);
        Check.due("2: 256 when it is full", x.write(256), PassInStep.BAD);
    }

    private static void wipedWhenFull() {
        PassInStep x = new PassInStep();
        Check.write(x, FIVE + FIVE);
        Check.due("4: the fault of a full text", x.fault(), 24);
        Check.due("3: wipe() of a full text", x.wipe(), 48);
        Check.due("3: it is empty", x.wipe(), 0);
        Check.due("4: fault() of an empty text", x.fault(), 0);
        Check.due("5: an empty text is no party", x.party(), PassInStep.LATE);
        Check.due("2: it is written again", x.write('P'), 1);
        Check.write(x, "P111");
        Check.due("3: nothing is left of it", x.fault(), PassInStep.NONE);
        Check.due("3: nobody is left of it", x.party(), 0);
        Check.write(x, FIVE);
        Check.due("3: nor when it was full", x.party(), 5);
        Check.due("3: wipe() leaves THE PARTY", x.wipe() + x.about(0), 29);
        Check.due("3: fault() of a wiped one", x.fault(), 0);
        Check.due("3: walkers stay", x.walker(4, 0), 9);
    }

    private static String allowed(int place) {
        return place < 4 ? HEAD[place] : WALKER[place % 4];
    }

    private static void eachByteAtEachPlace() {
        for (int place = 0; place < FIVE.length(); place++) {
            for (int letter = 0; letter < 256; letter++) {
                boolean fits = allowed(place).indexOf(letter) >= 0;
                String told = "4: byte " + letter + " at " + place;
                PassInStep x = new PassInStep();
                Check.write(x, FIVE.substring(0, place) + (char) letter);
                boolean ends = place % 4 == 3;
                Check.due(told + ", the last one", x.fault(), !fits ? place : ends ? PassInStep.NONE : place + 1);
                Check.due(told + ", party()", x.party(), fits && ends ? place / 4 : PassInStep.LATE);
                for (int i = place + 1; i < FIVE.length(); i++) {
                    x.write(FIVE.charAt(i));
                }
                Check.due(told + " of 24", x.fault(), fits ? PassInStep.NONE : place);
                Check.due(told + " of 24, party()", x.party(), fits ? 5 : PassInStep.LATE);
            }
        }
    }

    private static void noSixthWalker() {
        for (int letter = 0; letter < 256; letter++) {
            PassInStep x = new PassInStep();
            Check.write(x, FIVE + (char) letter);
            Check.due("4: byte " + letter + " behind five walkers", x.fault(), 24);
            Check.due("5: byte " + letter + " behind five walkers", x.party(), PassInStep.LATE);
        }
        for (int more = 1; more <= 24; more++) {
            PassInStep x = new PassInStep();
            Check.write(x, FIVE + "W111W111W111W111W111W111".substring(0, more));
            Check.due("4: " + more + " bytes behind five walkers", x.fault(), 24);
        }
    }

    private static void lengthsAndFaults() {
        int[] due = {0, 1, 2, 3, -9, 5, 6, 7, -9, 9, 10, 11, -9, 13, 14, 15, -9, 17, 18, 19, -9, 21, 22, 23, -9};
        PassInStep x = new PassInStep();
        for (int length = 0; length <= 24; length++) {
            Check.due("4: the first " + length, x.fault(), due[length]);
            if (length < 24) {
                x.write(FIVE.charAt(length));
            }
        }
        Check.due("4: THE TEXT, not THE PARTY", x.about(0), 0);
    }

    private static void faultOf(String text, int due) {
        PassInStep x = new PassInStep();
        Check.write(x, text);
        Check.due("4: " + text, x.fault(), due);
    }

    private static void theFirstFault() {
        faultOf("X", 0);
        faultOf("XX", 0);
        faultOf("PP", 1);
        faultOf("P0", 1);
        faultOf("P00", 1);
        faultOf("P1:0", 2);
        faultOf("P190", 3);
        faultOf("P1900", 3);
        faultOf("P199w", 4);
        faultOf("P199P", 4);
        faultOf("P199WW", 5);
        faultOf("P199W0500", 5);
        faultOf("P199W15", 6);
        faultOf("P199W15W114", 6);
        faultOf("P199W114W", 7);
        faultOf("P199W113W1", 10);
        faultOf("P199W113 ", 8);
        faultOf("P199W113\n", 8);
        faultOf(FIVE.substring(0, 23) + "4W", 23);
    }

    private static void noneOrMoreWalkers() {
        for (int count = 0; count <= 5; count++) {
            PassInStep x = new PassInStep();
            Check.write(x, FIVE.substring(0, 4 + 4 * count));
            Check.due("5: party() of " + count, x.party(), count);
            Check.due("6: about(0) of " + count, x.about(0), count);
            for (int w = -1; w <= 5; w++) {
                boolean is = w >= 0 && w < count;
                for (int what = 0; what < 3; what++) {
                    int due = is ? FIVE.charAt(5 + 4 * w + what) - '0' : PassInStep.UNKNOWN;
                    Check.due("7: walker(" + w + ", " + what + ") of " + count, x.walker(w, what), due);
                }
                Check.due("7: its place", x.walker(w, 5), is ? w : PassInStep.UNKNOWN);
                Check.due("8: line(" + w + ") of " + count, x.line(w), is ? w : PassInStep.UNKNOWN);
                Check.due("15: drops(" + w + ") of " + count, x.drops(w) == PassInStep.UNKNOWN ? 1 : 0, is ? 0 : 1);
                Check.due("21: share(" + w + ") of " + count, x.share(w, false) == PassInStep.UNKNOWN ? 1 : 0, is ? 0 : 1);
            }
        }
    }

    private static void madeAnewOfEachSize() {
        for (int first = 0; first <= 5; first++) {
            for (int then = 0; then <= 5; then++) {
                PassInStep x = Check.party(FIVE.substring(0, 4 + 4 * first));
                for (int w = 0; w < first; w++) {
                    x.drill(w, w == 0);
                    x.change(first - 2 - w);
                }
                x.step();
                String text = "P721" + "W510W523W442W731W810".substring(0, 4 * then);
                Check.write(x, text);
                Check.due("5: party() of " + then + " behind " + first, x.party(), then);
                PassInStep y = Check.party(text);
                Check.isTrue("5: " + then + " walkers made behind " + first, State.whole(x).equals(State.whole(y)));
            }
        }
    }

    private static void madeAnew() {
        PassInStep x = Check.party("P404W510W410W410");
        x.keep(1);
        x.mark(20, 12);
        x.mark(19, 12);
        x.seed(Long.MIN_VALUE);
        for (int i = 0; i < 20; i++) {
            x.step();
        }
        Check.due("5: one is down", x.about(3), 1);
        Check.due("5: THE TEXT stays", x.party() + x.about(7), 19);
        Check.due("5: nobody is DOWN", x.about(3), 0);
        Check.due("5: THE STEP is 0", x.about(1), 0);
        Check.due("5: no ACTS", x.about(5), 0);
        Check.due("5: nothing to undo", x.undo(), PassInStep.LATE);
        Check.due("5: SLOT 1 is gone", x.again(1), PassInStep.LATE);
        Check.due("5: SLOT 0 was never kept", x.again(0), PassInStep.LATE);
        Check.due("5: MARKS stay", x.about(6), 2);
        Check.due("5: what they say stays", x.whose(0), 0);
        Check.due("5: THE SEED stays", x.seed(0), Long.MIN_VALUE);
        x.drill(1, true);
        Check.due("5: the same text once more", x.party(), 3);
        Check.due("5: STRIDES are as told", x.walker(1, 0), 4);
        Check.due("5: no STRAIN", x.walker(1, 3) + x.about(4), 0);
        x.change(0);
        x.change(1);
        x.party();
        for (int place = 0; place < 3; place++) {
            Check.due("5: THE LINE is as told at " + place, x.line(place), place);
        }
    }

    private static void lateChangesNothing() {
        String[] texts = {"", "P", "P1", "P11", "X111", "P111W", "P111W1", "P111W11", "P111W114", FIVE + "W"};
        for (String text : texts) {
            PassInStep x = Check.party("P404W510W410W310");
            PassInStep y = Check.party("P404W510W410W310");
            for (PassInStep z : new PassInStep[] {x, y}) {
                z.drill(0, true);
                z.keep(1);
                z.step();
                Check.write(z, text);
            }
            Check.due("5: LATE of " + text, x.party(), PassInStep.LATE);
            Check.isTrue("5: LATE changes nothing, " + text, State.whole(x).equals(State.whole(y)));
        }
    }

    private static void aboutEach() {
        PassInStep x = Check.party("P111W510W510W510W510W510");
        for (int w = 0; w < 5; w++) {
            for (int i = 0; i < 5; i++) {
                x.drill(w, i % 2 == 0);
                Check.due("6: STRAIN of all", x.about(4), 5 * w + i + 1);
            }
        }
        Check.due("6: 14 ACTS at most", x.about(5), 14);
        Check.due("9: all drop at once", x.step(), 5);
        Check.due("6: who is DOWN, all five", x.about(3), 31);
        Check.due("6: STRAIN of those that are DOWN", x.about(4), 25);
        for (int w = 0; w < 5; w++) {
            x.rescue(w);
            Check.due("6: who is DOWN behind rescue(" + w + ")", x.about(3), 31 & -2 << w);
        }
        for (int count = 1; count <= 6; count++) {
            x.mark(0, 0);
            Check.due("6: MARKS", x.about(6), count);
        }
        Check.due("6: about(-1)", x.about(-1), PassInStep.BAD);
        Check.due("6: about(8)", x.about(8), PassInStep.BAD);
    }

    /** The treads of walker 0 in the steps from 0 on; it is rescued whenever it drops. */
    private static void treads(String text, String due) {
        PassInStep x = Check.party(text);
        for (int t = 0; t < due.length(); t++) {
            int tread = Character.digit(due.charAt(t), 16);
            Check.due("7: tread of " + text + " in step " + t, x.walker(0, 6), tread);
            x.step();
            boolean drops = tread > 9 || tread < 1;
            Check.due("9: whether it drops in step " + t, x.walker(0, 4), drops ? 1 : 0);
            Check.due("7: NONE of one that is DOWN", x.walker(0, 6) == PassInStep.NONE ? 1 : 0, drops ? 1 : 0);
            x.rescue(0);
        }
    }

    private static void treadOfPlainAndLame() {
        treads("P909W110", "1111111111111");
        treads("P909W940", "9999999999999");
        treads("P909W111", "1010101010101");
        treads("P909W941", "9898989898989");
        treads("P909W211", "2121");
    }

    private static void treadOfDrunk() {
        treads("P909W113", "1111111111111");
        treads("P909W123", "1212121212121");
        treads("P909W133", "1231231231231");
        treads("P909W143", "1234123412341");
        treads("P909W913", "9999999999999");
        treads("P909W943", "9abc9abc9abc9");
    }

    private static void treadOfWolf() {
        treads("P909W112", "2222222222222");
        treads("P909W122", "2121212121212");
        treads("P909W132", "2112112112112");
        treads("P909W142", "2111211121112");
        treads("P909W912", "aaaaaaaaaaaaa");
        treads("P909W942", "a999a999a999a");
    }

    private static void wolfBehindThoseDown() {
        PassInStep x = Check.party("P404W510W710W242W842W310");
        Check.due("7: the nearest one, not the first one", x.walker(2, 6), 7);
        Check.due("7: a wolf behind a wolf", x.walker(3, 6), 7);
        Check.due("9: both ahead drop", x.step(), 2);
        Check.due("7: those that are DOWN are not ahead", x.walker(2, 6), 2);
        Check.due("7: the next wolf treads as the first", x.walker(3, 6), 2);
        x.change(3);
        Check.due("7: the one ahead by THE LINE, not by its number", x.walker(3, 6), 3);
        Check.due("7: the first wolf stays", x.walker(2, 6), 2);
        x.change(2);
        Check.due("7: now it is ahead of both", x.walker(2, 6), 3);
        x.rescue(0);
        Check.due("7: one behind is not ahead", x.walker(3, 6), 3);
        x.change(3);
        Check.due("7: a rescued one is ahead again", x.walker(3, 6), 5);
        Check.due("7: but not of the other wolf", x.walker(2, 6), 3);
        x.change(2);
        Check.due("7: of both", x.walker(2, 6), 5);
        x.change(1);
        Check.due("7: of two the nearest", x.walker(2, 6), 3);
    }

    private static void snowByNoon() {
        for (int noon = 0; noon <= 9; noon++) {
            PassInStep x = Check.party("P2" + noon + "7");
            for (int t = 0; t <= 11; t++) {
                Check.due("6: SNOW in step " + t + ", noon " + noon, x.about(2), t >= noon ? 7 : 2);
                x.step();
            }
        }
        for (int depth = 1; depth <= 9; depth++) {
            Check.due("6: DEPTH " + depth, Check.party("P" + depth + "11").about(2), depth);
            Check.due("6: DEPTH behind it " + depth, Check.party("P10" + depth).about(2), depth);
        }
    }
}
