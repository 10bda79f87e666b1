/** Promise 12: told. */
final class Promise12ToldTest {
    private static final int NONE = MeasuredTensors.NONE;

    public static void main(String[] args) {
        Due due = new Due("Promise 12");
        due.about("what = 0 how many sides, 1 .. 4 these (1 for none), 5 cells, 6 terms, 7 r, 8 e; 9 how many uses of "
                + "it give it a slope (0 without a loss; the loss itself has one for being it), 10 the slope's r, 11 "
                + "its e (NONE without one)");
        MeasuredTensors x = new MeasuredTensors();
        x.begin(11);
        x.made(true, 2, 3, 4, 0, 0);
        x.call(6, 1, 0, 0, 0, 0, 0);
        int[][] before = {{2, 3, 4, 1, 1, 12, 1, 15, 11, 0, NONE, NONE}, {0, 1, 1, 1, 1, 1, 12, 20, 13, 0, NONE, NONE}};
        tells(due, x, before);
        x.loss(1);
        int[][] after = {{2, 3, 4, 1, 1, 12, 1, 15, 11, 1, 2, 2}, {0, 1, 1, 1, 1, 1, 12, 20, 13, 1, 1, 0}};
        tells(due, x, after);

        due.about("IndexOutOfBoundsException: there is no such tensor; IllegalArgumentException: another what");
        for (int what : new int[] {-1, 12, Integer.MIN_VALUE, Integer.MAX_VALUE}) {
            due.isIllegal("told(0, " + what + ")", () -> x.told(0, what));
            due.isOutOfBounds("told(2, " + what + ")", () -> x.told(2, what));
        }
        for (int t : new int[] {-1, 2, Integer.MIN_VALUE, Integer.MAX_VALUE}) {
            due.isOutOfBounds("told(" + t + ", 0)", () -> x.told(t, 0));
        }
        due.holds(x, 2, 0, 24, 1);
        due.end();
    }

    private static void tells(Due due, MeasuredTensors x, int[][] rows) {
        for (int t = 0; t < rows.length; t++) {
            for (int what = 0; what <= 11; what++) {
                due.is("told(" + t + ", " + what + ")", rows[t][what], x.told(t, what));
            }
        }
    }
}
