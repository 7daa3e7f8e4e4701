/** Each bound of MARKS and WHOSE: below it, at it, above it; none, one, six. */
final class MarksEdgesTests {
    private static final int NONE = PassInStep.NONE, BAD = PassInStep.BAD;

    public static void main(String[] args) {
        eachStep();
        eachTread();
        sixMarks();
        snowedAndMarkedAgain();
        whoseOfNoMarks();
        whoseOfEveryone();
        wolvesAreNotAsked();
        treadsThatFewHave();
        strangeSteps();
        whatIsAsked();
        marksStay();
        Check.finish("MarksEdgesTests");
    }

    private static void eachStep() {
        for (int t = -3; t <= 24; t++) {
            PassInStep x = new PassInStep();
            boolean can = t >= 0 && t <= 20;
            Check.due("22: step " + t, x.mark(t, 5), can ? 1 : BAD);
            Check.due("22: MARKS behind step " + t, x.about(6), can ? 1 : 0);
        }
    }

    private static void eachTread() {
        for (int v = -3; v <= 16; v++) {
            PassInStep x = new PassInStep();
            boolean can = v >= 0 && v <= 12;
            Check.due("22: tread " + v, x.mark(5, v), can ? 1 : BAD);
            Check.due("22: MARKS behind tread " + v, x.about(6), can ? 1 : 0);
        }
        PassInStep x = new PassInStep();
        Check.due("22: both are least", x.mark(0, 0), 1);
        Check.due("22: both are greatest", x.mark(20, 12), 2);
        Check.due("22: both are too much", x.mark(21, 13), BAD);
        Check.due("22: both are too little", x.mark(-1, -1), BAD);
    }

    private static void sixMarks() {
        PassInStep x = new PassInStep();
        for (int count = 1; count <= 6; count++) {
            Check.due("22: how many there are", x.mark(2 * count, 7), count);
        }
        Check.due("22: the seventh", x.mark(0, 7), PassInStep.FULL);
        Check.due("22: the eighth", x.mark(1, 1), PassInStep.FULL);
        Check.due("22: six there are", x.about(6), 6);
        Check.due("22: the seventh is not one", x.whose(0), 4 + 4 + 2);
        Check.due("22: BAD t ahead of FULL", x.mark(21, 7), BAD);
        Check.due("22: BAD v ahead of FULL", x.mark(0, 13), BAD);
    }

    private static void snowedAndMarkedAgain() {
        PassInStep x = new PassInStep();
        Check.due("23: there were none", x.snowed(), 0);
        for (int round = 0; round < 3; round++) {
            for (int count = 1; count <= 6; count++) {
                Check.due("22: from none again", x.mark(round, 7), count);
            }
            Check.due("22: full again", x.mark(round, 7), PassInStep.FULL);
            Check.due("23: there were six", x.snowed(), 6);
            Check.due("23: there are none", x.about(6), 0);
            Check.due("23: none to snow", x.snowed(), 0);
            Check.due("24: nothing is left of them", x.whose(0), 108);
        }
        x.mark(1, 1);
        Check.due("23: there was one", x.snowed(), 1);
    }

    private static void whoseOf(String told, int[] marks, int howMany, int first) {
        PassInStep x = new PassInStep();
        for (int i = 0; i < marks.length; i += 2) {
            x.mark(marks[i], marks[i + 1]);
        }
        Check.due("24: how many, " + told, x.whose(0), howMany);
        Check.due("24: the first one, " + told, x.whose(1), first);
        Check.due("24: not more by asking, " + told, x.whose(0), howMany);
    }

    private static void whoseOfNoMarks() {
        whoseOf("no marks", new int[] {}, 108, 11);
    }

    private static int tread(int kind, int stride, int beat, int t) {
        return kind == 0 ? stride : kind == 1 ? stride - t % 2 : stride + t % beat;
    }

    /** Each of the 108, told by its own treads in so many steps. */
    private static void whoseOfEveryone() {
        int[][] steps = {{0}, {3}, {20}, {0, 1}, {1, 2, 3}, {0, 1, 2, 3, 4, 5}, {20, 19, 18, 17, 16, 15}};
        for (int[] row : steps) {
            for (int code = 0; code < 400; code++) {
                if (!isOne(code)) {
                    continue;
                }
                int[] marks = new int[2 * row.length];
                for (int i = 0; i < row.length; i++) {
                    marks[2 * i] = row[i];
                    marks[2 * i + 1] = tread(code / 100, code / 10 % 10, code % 10, row[i]);
                }
                whoseOf("of " + code + " in " + row.length, marks, fitting(marks, true), fitting(marks, false));
            }
        }
    }

    private static boolean isOne(int code) {
        return code / 100 != 2 && code / 10 % 10 != 0 && code % 10 >= 1 && code % 10 <= 4;
    }

    private static int fitting(int[] marks, boolean howMany) {
        int count = 0;
        int first = NONE;
        for (int code = 399; code >= 0; code--) {
            boolean fits = isOne(code);
            for (int i = 0; fits && i < marks.length; i += 2) {
                fits = tread(code / 100, code / 10 % 10, code % 10, marks[i]) == marks[i + 1];
            }
            count += fits ? 1 : 0;
            first = fits ? code : first;
        }
        return howMany ? count : first;
    }

    private static void wolvesAreNotAsked() {
        whoseOf("a wolf's of beat 3", new int[] {0, 6, 1, 5, 2, 5, 3, 6}, 0, NONE);
        whoseOf("a wolf's of beat 2 are a lame one's", new int[] {0, 6, 1, 5, 2, 6, 3, 5}, 4, 161);
        whoseOf("a wolf's tread of 10", new int[] {0, 10}, 0, NONE);
    }

    private static void treadsThatFewHave() {
        whoseOf("0 in an odd step", new int[] {19, 0}, 4, 111);
        whoseOf("0 in an even step", new int[] {20, 0}, 0, NONE);
        whoseOf("12 in step 3", new int[] {3, 12}, 1, 394);
        whoseOf("12 in step 2", new int[] {2, 12}, 0, NONE);
        whoseOf("11 in step 2", new int[] {2, 11}, 2, 393);
        whoseOf("11 in step 3", new int[] {3, 11}, 1, 384);
        whoseOf("10 in step 1", new int[] {1, 10}, 3, 392);
        whoseOf("10 in step 0", new int[] {0, 10}, 0, NONE);
        whoseOf("9 in step 0", new int[] {0, 9}, 12, 91);
        whoseOf("1 in step 0", new int[] {0, 1}, 12, 11);
        whoseOf("1 in step 1", new int[] {1, 1}, 9, 11);
        whoseOf("9 in step 1", new int[] {1, 9}, 4 + 1 + 3, 91);
    }

    private static void strangeSteps() {
        whoseOf("two treads in one step", new int[] {4, 5, 4, 6}, 0, NONE);
        whoseOf("one told six times", new int[] {4, 5, 4, 5, 4, 5, 4, 5, 4, 5, 4, 5}, 4 + 4 + 3 + 1, 51);
        whoseOf("12 steps later", new int[] {0, 5, 12, 5}, 12, 51);
        whoseOf("the sixth alone does not fit", new int[] {0, 5, 1, 5, 2, 5, 3, 5, 4, 5, 5, 6}, 0, NONE);
        whoseOf("a drunkard of beat 1 is as a plain one", new int[] {0, 5, 1, 5, 2, 5, 3, 5, 4, 5, 5, 5}, 5, 51);
        whoseOf("beat 3 in step 20", new int[] {18, 5, 20, 7}, 1, 353);
    }

    private static void whatIsAsked() {
        PassInStep x = new PassInStep();
        for (int what : new int[] {-2, -1, 2, 3, Integer.MIN_VALUE, Integer.MAX_VALUE}) {
            Check.due("24: what " + what, x.whose(what), BAD);
        }
        x.mark(0, 0);
        Check.due("24: BAD, whatever fits", x.whose(2), BAD);
        Check.due("24: 0 of none", x.whose(0), 0);
        Check.due("24: NONE", x.whose(1), NONE);
    }

    private static void marksStay() {
        PassInStep x = Check.party("P909W743W510");
        x.mark(0, 7);
        x.mark(1, 8);
        Check.steps(x, 3);
        x.keep(0);
        x.snowed();
        x.mark(3, 12);
        x.again(0);
        Check.due("22: SLOTS keep no MARKS", x.about(6), 1);
        x.party();
        Check.due("22: a party leaves MARKS", x.whose(1), 394);
        x.wipe();
        Check.due("22: wipe() leaves MARKS", x.about(6), 1);
    }
}
