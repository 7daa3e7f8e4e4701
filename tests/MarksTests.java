/** Promises 22 to 24: marks, and whose they are. */
final class MarksTests {
    public static void main(String[] args) {
        mark();
        snowed();
        whoseByKind();
        whoseByMore();
        Check.finish("MarksTests");
    }

    private static void mark() {
        PassInStep x = new PassInStep();
        int[][] bad = {{-1, 0}, {21, 0}, {0, -1}, {0, 13}, {Integer.MIN_VALUE, Integer.MAX_VALUE}};
        for (int[] mark : bad) {
            Check.due("22: mark(" + mark[0] + ", " + mark[1] + ")", x.mark(mark[0], mark[1]), PassInStep.BAD);
        }
        Check.due("22: mark(0, 0)", x.mark(0, 0), 1);
        Check.due("22: mark(20, 12)", x.mark(20, 12), 2);
        for (int count = 3; count <= 6; count++) {
            Check.due("22: a mark", x.mark(1, 1), count);
        }
        Check.due("22: six at most", x.mark(1, 1), PassInStep.FULL);
        Check.due("22: BAD is told ahead of FULL", x.mark(21, 1), PassInStep.BAD);
        Check.due("22: marks are no acts", x.about(5), 0);
    }

    private static void snowed() {
        PassInStep x = new PassInStep();
        Check.due("23: none", x.snowed(), 0);
        x.mark(0, 9);
        x.mark(1, 2);
        Check.due("23: two", x.snowed(), 2);
        Check.due("23: none again", x.snowed(), 0);
        Check.due("23: all fit", x.whose(0), 108);
        Check.due("23: marks go on", x.mark(0, 3), 1);
    }

    private static void whoseOf(int[] marks, int howMany, int first) {
        PassInStep x = new PassInStep();
        StringBuilder told = new StringBuilder("24: whose of");
        for (int i = 0; i < marks.length; i += 2) {
            x.mark(marks[i], marks[i + 1]);
            told.append(' ').append(marks[i]).append('/').append(marks[i + 1]);
        }
        Check.due(told + ", how many", x.whose(0), howMany);
        Check.due(told + ", the first one", x.whose(1), first);
    }

    private static void whoseByKind() {
        whoseOf(new int[] {}, 108, 11);
        whoseOf(new int[] {0, 4}, 12, 41);
        whoseOf(new int[] {1, 3}, 12, 31);
        whoseOf(new int[] {0, 4, 1, 3}, 4, 141);
        whoseOf(new int[] {0, 4, 1, 5}, 3, 342);
        whoseOf(new int[] {0, 4, 1, 5, 2, 6}, 2, 343);
        whoseOf(new int[] {0, 4, 1, 5, 2, 6, 3, 7}, 1, 344);
        whoseOf(new int[] {0, 4, 1, 5, 2, 6, 3, 4}, 1, 343);
        whoseOf(new int[] {0, 4, 1, 4}, 5, 41);
    }

    private static void whoseByMore() {
        whoseOf(new int[] {1, 0}, 4, 111);
        whoseOf(new int[] {3, 12}, 1, 394);
        whoseOf(new int[] {3, 11}, 1, 384);
        whoseOf(new int[] {0, 0}, 0, PassInStep.NONE);
        whoseOf(new int[] {2, 5, 2, 6}, 0, PassInStep.NONE);
        whoseOf(new int[] {2, 5, 2, 5}, 12, 51);
        PassInStep x = Check.party("P909W512W610");
        Check.steps(x, 3);
        x.mark(0, 6);
        Check.due("24: whatever the party is", x.whose(0), 12);
        Check.due("24: whose(2)", x.whose(2), PassInStep.BAD);
        Check.due("24: whose(-1)", x.whose(-1), PassInStep.BAD);
    }
}
