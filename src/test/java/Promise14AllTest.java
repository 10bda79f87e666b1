/** Promise 14: all. */
final class Promise14AllTest {
    private static final int NONE = MeasuredTensors.NONE;

    public static void main(String[] args) {
        Due due = new Due("Promise 14");
        due.about("How many tensors there are (0), indices (1), WORK (2); the loss (3, NONE without one); NONE for "
                + "another what");
        MeasuredTensors x = new MeasuredTensors();
        tellsNothingElse(due, x);
        x.made(false, 2, 5, 6, 0, 0);
        due.holds(x, 1, 0, 30, NONE);
        x.index(2, 5, 6, 0, 0, 3);
        x.index(0, 0, 0, 0, 0, 3);
        due.holds(x, 1, 2, 30, NONE);
        x.call(5, 1, 0, 0, 1, 0, 0);
        due.holds(x, 2, 2, 60, NONE);
        x.call(5, 1, 1, 0, 0, 0, 0);
        due.holds(x, 3, 2, 66, NONE);
        x.loss(2);
        due.holds(x, 3, 2, 66, 2);
        x.number(1, 2);
        due.holds(x, 4, 2, 67, 2);
        x.loss(3);
        due.holds(x, 4, 2, 67, 3);
        tellsNothingElse(due, x);
        x.begin(0);
        due.holds(x, 0, 0, 0, NONE);
        due.end();
    }

    private static void tellsNothingElse(Due due, MeasuredTensors x) {
        for (int what : new int[] {-1, 4, -5, Integer.MIN_VALUE, Integer.MAX_VALUE}) {
            due.is("all(" + what + ")", NONE, x.all(what));
        }
    }
}
