/** Promise 4: made. */
final class Promise04MadeTest {
    private static final int FULL = MeasuredTensors.FULL;

    public static void main(String[] args) {
        Due due = new Due("Promise 4");
        makesInputsAndParams(due);
        isFull(due);
        refuses(due);
        due.end();
    }

    private static void makesInputsAndParams(Due due) {
        due.about("An input (param: a param) with so many sides, the first of a, b, c, d");
        MeasuredTensors x = new MeasuredTensors();
        x.begin(9);
        due.is("made(false, 0, ..)", 0, x.made(false, 0, -1, -1, -1, -1));
        due.hasShape(x, 0);
        due.hasMeasure(x, 0, 1, 16, 16, 1);
        due.is("made(true, 1, ..)", 1, x.made(true, 1, 5, 0, 0, 0));
        due.hasShape(x, 1, 5);
        due.hasMeasure(x, 1, 1, 15, 9, 1);
        due.is("made(false, 2, ..)", 2, x.made(false, 2, 4096, 16, 5000, -7));
        due.hasShape(x, 2, 4096, 16);
        due.is("made(true, 3, ..)", 3, x.made(true, 3, 2, 3, 4, 0));
        due.hasShape(x, 3, 2, 3, 4);
        due.is("made(false, 4, ..)", 4, x.made(false, 4, 2, 1, 4, 7));
        due.hasShape(x, 4, 2, 1, 4, 7);
        due.hasNoSlope(x, 4);
        due.holds(x, 5, 0, 1 + 5 + 65536 + 24 + 56, MeasuredTensors.NONE);
    }

    private static void isFull(Due due) {
        due.about("FULL as of a call");
        MeasuredTensors x = new MeasuredTensors();
        due.is("65537 cells", FULL, x.made(false, 2, 257, 256, 0, 0));
        due.is("4096 x 17", FULL, x.made(true, 2, 4096, 17, 0, 0));
        due.is("cells beyond an int", FULL, x.made(false, 4, 4096, 4096, 4096, 4096));
        due.is("cells of 2^32", FULL, x.made(false, 4, 256, 256, 256, 256));
        due.holds(x, 0, 0, 0, MeasuredTensors.NONE);
        for (int k = 0; k < 15; k++) {
            due.is("65536 cells", k, x.made(false, 4, 16, 16, 16, 16));
        }
        due.is("work 999424", 15, x.made(true, 2, 4096, 4, 0, 0));
        due.is("work 1000001", FULL, x.made(true, 1, 577, 0, 0, 0));
        due.is("work 1000000", 16, x.made(true, 1, 576, 0, 0, 0));
        due.is("work 1000001", FULL, x.made(true, 0, 0, 0, 0, 0));
        due.holds(x, 17, 0, 1000000, MeasuredTensors.NONE);
    }

    private static void refuses(Due due) {
        due.about("IllegalArgumentException: sides is not 0 .. 4, or one of those is not 1 .. 4096");
        MeasuredTensors x = new MeasuredTensors();
        int[][] rows = {
            {-1, 1, 1, 1, 1}, {5, 1, 1, 1, 1}, {Integer.MIN_VALUE, 1, 1, 1, 1}, {Integer.MAX_VALUE, 1, 1, 1, 1},
            {1, 0, 1, 1, 1}, {1, 4097, 1, 1, 1}, {1, -1, 1, 1, 1}, {2, 1, 0, 1, 1}, {2, 1, 4097, 1, 1},
            {3, 1, 1, 0, 1}, {3, 1, 1, 4097, 1}, {4, 1, 1, 1, 0}, {4, 1, 1, 1, 4097}, {4, 1, 1, 1, -4},
            {2, 4096, 5000, 1, 1}, {4, 4096, 4096, 4096, 0},
        };
        for (int[] row : rows) {
            due.isIllegal("made of " + row[0] + " sides",
                    () -> x.made(true, row[0], row[1], row[2], row[3], row[4]));
        }
        due.holds(x, 0, 0, 0, MeasuredTensors.NONE);
    }
}
