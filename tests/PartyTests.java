/** Promises 1 to 8: the text and the party. */
final class PartyTests {
    private static final String FIVE = "P111W111W111W111W111W111";

    public static void main(String[] args) {
        constants();
        newObject();
        write();
        wipe();
        fault();
        party();
        partyMakesAnew();
        about();
        walker();
        treadOfEachKind();
        treadOfWolves();
        line();
        Check.finish("PartyTests");
    }

    private static void constants() {
        Check.due("UNKNOWN", PassInStep.UNKNOWN, -1);
        Check.due("BAD", PassInStep.BAD, -2);
        Check.due("LATE", PassInStep.LATE, -3);
        Check.due("FULL", PassInStep.FULL, -4);
        Check.due("NONE", PassInStep.NONE, -9);
    }

    private static void newObject() {
        PassInStep x = new PassInStep();
        int[] due = {0, 0, 1, 0, 0, 0, 0, 0};
        for (int what = 0; what < due.length; what++) {
            Check.due("1: about(" + what + ") of a new object", x.about(what), due[what]);
        }
        Check.due("1: fault() of a new object", x.fault(), 0);
        Check.due("1: line(0) of a new object", x.line(0), PassInStep.UNKNOWN);
        Check.due("1: again(0) of a new object", x.again(0), PassInStep.LATE);
        Check.due("1: seed of a new object", x.seed(7), 0);
        Check.due("1: likes() of a new object", x.likes(), 1);
    }

    private static void write() {
        PassInStep x = new PassInStep();
        Check.due("2: write(-1)", x.write(-1), PassInStep.BAD);
        Check.due("2: write(256)", x.write(256), PassInStep.BAD);
        Check.due("2: BAD changes nothing", x.about(7), 0);
        Check.due("2: write(0)", x.write(0), 1);
        Check.due("2: write(255)", x.write(255), 2);
        for (int i = 3; i <= 48; i++) {
            Check.due("2: write no " + i, x.write('P'), i);
        }
        Check.due("2: write no 49", x.write('P'), PassInStep.FULL);
        Check.due("2: BAD is told ahead of FULL", x.write(Integer.MIN_VALUE), PassInStep.BAD);
        Check.due("2: 48 stay", x.about(7), 48);
    }

    private static void wipe() {
        PassInStep x = new PassInStep();
        Check.due("3: wipe() of nothing", x.wipe(), 0);
        Check.write(x, FIVE);
        Check.due("3: wipe()", x.wipe(), 24);
        Check.due("3: it is empty", x.about(7), 0);
        Check.due("3: wipe() again", x.wipe(), 0);
    }

    private static void faultOf(String text, int due) {
        PassInStep x = new PassInStep();
        Check.write(x, text);
        Check.due("4: fault() of " + text, x.fault(), due);
        Check.due("5: party() of " + text, x.party(), due == PassInStep.NONE ? (text.length() - 4) / 4 : PassInStep.LATE);
    }

    private static void fault() {
        for (int length = 0; length <= FIVE.length(); length++) {
            boolean atEnd = length >= 4 && length % 4 == 0;
            faultOf(FIVE.substring(0, length), atEnd ? PassInStep.NONE : length);
        }
        String[] least = {"P", "1", "0", "1", "W", "1", "1", "0", "W", "1", "1", "0"};
        String[] most = {"P", "9", "9", "9", "W", "9", "4", "3", "W", "9", "4", "3"};
        faultOf(String.join("", least), PassInStep.NONE);
        faultOf(String.join("", most), PassInStep.NONE);
        for (int place = 0; place < least.length; place++) {
            faultWithOther(least, place, (char) (least[place].charAt(0) - 1));
            faultWithOther(most, place, (char) (most[place].charAt(0) + 1));
        }
        faultOf(FIVE + "W", 24);
        faultOf(FIVE + "W111", 24);
        faultOf("p111", 0);
        faultOf("P1x1x", 2);
        faultOf("x0", 0);
    }

    private static void faultWithOther(String[] parts, int place, char other) {
        String[] changed = parts.clone();
        changed[place] = String.valueOf(other);
        faultOf(String.join("", changed), place);
        faultOf(String.join("", changed).substring(0, place + 1), place);
    }

    private static void party() {
        PassInStep x = Check.party("P527W213W942W510");
        Check.due("5: the text stays", x.about(7), 16);
        Check.due("5: it can be told again", x.party(), 3);
        Check.write(x, "P527W5");
        Check.due("5: LATE", x.party(), PassInStep.LATE);
        Check.due("5: LATE changes nothing", x.about(0), 3);
        Check.due("5: nobody", Check.party("P345").about(0), 0);
    }

    private static void partyMakesAnew() {
        PassInStep x = Check.party("P404W510W410W410");
        x.step();
        x.change(1);
        x.drill(1, true);
        x.mark(0, 3);
        x.seed(77);
        x.keep(0);
        x.keep(1);
        Check.due("5: somebody is down", x.about(3), 1);
        x.party();
        int[] due = {3, 0, 4, 0, 0, 0, 1, 16};
        for (int what = 0; what < due.length; what++) {
            Check.due("5: about(" + what + ") of a party made anew", x.about(what), due[what]);
        }
        for (int walker = 0; walker < 3; walker++) {
            Check.due("5: the line is as told", x.line(walker), walker);
        }
        Check.due("5: strides are as told", x.walker(1, 0), 4);
        Check.due("5: no acts", x.undo(), PassInStep.LATE);
        Check.due("5: slot 0 is gone", x.again(0), PassInStep.LATE);
        Check.due("5: slot 1 is gone", x.again(1), PassInStep.LATE);
        Check.due("5: the seed stays", x.seed(0), 77);
    }

    private static void about() {
        PassInStep x = Check.party("P624W510W510W610");
        Check.due("6: walkers", x.about(0), 3);
        Check.due("6: snow ahead of noon", x.about(2), 6);
        x.step();
        Check.due("6: the step", x.about(1), 1);
        Check.due("6: snow just ahead of noon", x.about(2), 6);
        Check.due("6: down", x.about(3), 4);
        x.drill(0, true);
        x.drill(1, false);
        x.drill(1, true);
        Check.due("6: strain of all", x.about(4), 3);
        Check.due("6: acts", x.about(5), 4);
        x.step();
        Check.due("6: snow from noon on", x.about(2), 4);
        x.mark(1, 1);
        x.mark(1, 1);
        Check.due("6: marks", x.about(6), 2);
        Check.due("6: bytes", x.about(7), 16);
        Check.due("6: about(8)", x.about(8), PassInStep.BAD);
        Check.due("6: about(-1)", x.about(-1), PassInStep.BAD);
    }

    private static void walker() {
        PassInStep x = Check.party("P624W711W842W533");
        int[][] due = {{7, 1, 1, 0, 0, 0, 7}, {8, 4, 2, 0, 0, 1, 7}, {5, 3, 3, 0, 0, 2, 5}};
        for (int walker = 0; walker < 3; walker++) {
            for (int what = 0; what < 7; what++) {
                Check.due("7: walker(" + walker + ", " + what + ")", x.walker(walker, what), due[walker][what]);
            }
        }
        x.change(0);
        x.drill(2, true);
        Check.due("7: stride drilled", x.walker(2, 0), 6);
        Check.due("7: strain", x.walker(2, 3), 1);
        Check.due("7: place", x.walker(0, 5), 1);
        Check.due("7: the wolf is first now, on its beat", x.walker(1, 6), 9);
        x.step();
        Check.due("7: down", x.walker(1, 4), 1);
        Check.due("7: no tread of one that is down", x.walker(1, 6), PassInStep.NONE);
        Check.due("7: walker(3, 0)", x.walker(3, 0), PassInStep.UNKNOWN);
        Check.due("7: walker(-1, 0)", x.walker(-1, 0), PassInStep.UNKNOWN);
        Check.due("7: UNKNOWN is told ahead of BAD", x.walker(3, 9), PassInStep.UNKNOWN);
        Check.due("7: walker(0, 7)", x.walker(0, 7), PassInStep.BAD);
        Check.due("7: walker(0, -1)", x.walker(0, -1), PassInStep.BAD);
    }

    private static void treadOfEachKind() {
        treads("P909W510", new int[] {5, 5, 5, 5, 5});
        treads("P909W541", new int[] {5, 4, 5, 4, 5});
        treads("P909W533", new int[] {5, 6, 7, 5, 6});
        treads("P909W513", new int[] {5, 5, 5, 5, 5});
        treads("P909W532", new int[] {6, 5, 5, 6, 5});
        treads("P909W512", new int[] {6, 6, 6, 6, 6});
    }

    private static void treads(String text, int[] due) {
        PassInStep x = Check.party(text);
        for (int t = 0; t < due.length; t++) {
            Check.due("7: tread of " + text + " in step " + t, x.walker(0, 6), due[t]);
            x.step();
        }
    }

    private static void treadOfWolves() {
        PassInStep x = Check.party("P909W512W310W722W712W310");
        Check.due("7: a wolf that is first", x.walker(0, 6), 6);
        Check.due("7: one ahead does not count who will drop", x.walker(1, 6), 3);
        Check.due("7: a wolf treads as the one ahead", x.walker(2, 6), 3);
        Check.due("7: a wolf behind a wolf", x.walker(3, 6), 3);
        x.step();
        Check.due("7: both plain ones dropped", x.about(3), 2 + 16);
        Check.due("7: behind the first wolf", x.walker(3, 6), 6);
    }

    private static void line() {
        PassInStep x = Check.party("P909W510W510W510");
        x.change(0);
        x.change(1);
        Check.due("8: line(0)", x.line(0), 1);
        Check.due("8: line(1)", x.line(1), 2);
        Check.due("8: line(2)", x.line(2), 0);
        Check.due("8: line(3)", x.line(3), PassInStep.UNKNOWN);
        Check.due("8: line(-1)", x.line(-1), PassInStep.UNKNOWN);
    }
}
