/** Promise 10: reshape. */
final class Promise10ReshapeTest {
    private static final int WRONG = MeasuredTensors.WRONG;

    public static void main(String[] args) {
        Due due = new Due("Promise 10");
        due.about("A reshaped to so many sides. reshape(a, shape): as many cells, in their order");
        MeasuredTensors x = new MeasuredTensors();
        x.begin(2);
        x.made(true, 2, 4, 6, 0, 0);
        x.over(0, 6, 1);
        due.is("[4, 6] to [24]", 2, x.reshape(1, 1, 24, 0, 0, 0));
        due.hasShape(x, 2, 24);
        due.hasMeasure(x, 2, 1, 16, 3, 3);
        due.is("[4, 6] to [2, 3, 1, 4]", 3, x.reshape(1, 4, 2, 3, 1, 4));
        due.hasShape(x, 3, 2, 3, 1, 4);
        due.is("to its own shape", 4, x.reshape(0, 2, 4, 6, -1, -1));
        due.hasShape(x, 4, 4, 6);
        x.number(1, 5);
        due.is("[] to []", 6, x.reshape(5, 0, -1, -1, -1, -1));
        due.hasShape(x, 6);
        due.is("[] to [1, 1]", 7, x.reshape(5, 2, 1, 1, 9, 9));
        due.hasShape(x, 7, 1, 1);
        due.hasMeasure(x, 7, 1, 1, 0, 5);
        due.is("[1, 1] to []", 8, x.reshape(7, 0, 1, 1, 1, 1));
        due.holds(x, 9, 0, 5 * 24 + 4, MeasuredTensors.NONE);
        x.pair(2, 3, 8);
        x.call(5, 1, 9, 0, 0, 0, 0);
        x.loss(10);
        due.hasSlope(x, 3, 1, 1 + 1, 0, 5);
        due.hasSlope(x, 1, 1, 2, 0, 5);
        due.hasSlope(x, 7, 1, 1 + 16 + 5, 3, 3);
        isWrong(due, x);
        refuses(due, x);
        due.end();
    }

    private static void isWrong(Due due, MeasuredTensors x) {
        due.about("WRONG: other cells");
        due.is("[4, 6] to [23]", WRONG, x.reshape(0, 1, 23, 0, 0, 0));
        due.is("[4, 6] to []", WRONG, x.reshape(0, 0, 0, 0, 0, 0));
        due.is("[4, 6] to [4, 4]", WRONG, x.reshape(0, 2, 4, 4, 0, 0));
        due.is("[4, 6] to 2^48 cells", WRONG, x.reshape(0, 4, 4096, 4096, 4096, 4096));
        due.is("[] to [2]", WRONG, x.reshape(5, 1, 2, 0, 0, 0));
        due.holds(x, 11, 0, 5 * 24 + 4 + 24 + 24, 10);
    }

    private static void refuses(Due due, MeasuredTensors x) {
        due.about("IndexOutOfBoundsException: there is no such tensor; IllegalArgumentException: as for made");
        int[][] rows = {{-1, 4, 6, 1, 1}, {5, 4, 6, 1, 1}, {2, 0, 6, 1, 1}, {2, 4, -6, 1, 1}, {3, 4, 6, 0, 1},
            {4, 4, 6, 1, 4097}, {1, 4097, 1, 1, 1}};
        for (int[] k : rows) {
            due.isIllegal("reshape to " + k[0] + " sides", () -> x.reshape(0, k[0], k[1], k[2], k[3], k[4]));
            due.isOutOfBounds("reshape of none", () -> x.reshape(11, k[0], k[1], k[2], k[3], k[4]));
        }
        due.isOutOfBounds("reshape(-1, ..)", () -> x.reshape(-1, 0, 0, 0, 0, 0));
        due.isOutOfBounds("reshape(11, ..)", () -> x.reshape(11, 0, 0, 0, 0, 0));
        due.holds(x, 11, 0, 5 * 24 + 4 + 24 + 24, 10);
    }
}
