/** Promise 6: pair. */
final class Promise06PairTest {
    private static final int WRONG = MeasuredTensors.WRONG, FULL = MeasuredTensors.FULL;
    private static final int PLUS = 0, MINUS = 1, TIMES = 2, MATRIX = 3;

    public static void main(String[] args) {
        Due due = new Due("Promise 6");
        goesCellByCell(due);
        sumsProducts(due);
        isWrong(due);
        isFull(due);
        findsSlopes(due);
        refuses(due);
        due.end();
    }

    private static void goesCellByCell(Due due) {
        due.about("a + b (how = 0), a - b (1), a * b (2): cell by cell, the smaller one again and again");
        MeasuredTensors x = new MeasuredTensors();
        x.begin(20);
        x.made(false, 2, 2, 3, 0, 0);
        x.made(true, 1, 3, 0, 0, 0);
        x.number(5, 12);
        x.number(7, 90);
        due.is("[2, 3] + [3]", 4, x.pair(PLUS, 0, 1));
        due.hasShape(x, 4, 2, 3);
        due.hasMeasure(x, 4, 1, 17, 20, 1);
        due.is("[3] - [2, 3]", 5, x.pair(MINUS, 1, 0));
        due.hasShape(x, 5, 2, 3);
        due.hasMeasure(x, 5, 1, 17, 20, 1);
        due.is("[3] * [2, 3]", 6, x.pair(TIMES, 1, 0));
        due.hasShape(x, 6, 2, 3);
        due.hasMeasure(x, 6, 1, 31, 36, 1);
        due.is("[] - []", 7, x.pair(MINUS, 2, 3));
        due.hasShape(x, 7);
        due.hasMeasure(x, 7, 1, 4, 2, 45);
        due.is("[] * []", 8, x.pair(TIMES, 3, 2));
        due.hasMeasure(x, 8, 1, 6, 3, 135);
        due.is("[2, 3] + []", 9, x.pair(PLUS, 0, 2));
        due.hasShape(x, 9, 2, 3);
        due.hasMeasure(x, 9, 1, 17, 16, 3);
        due.is("a + a", 10, x.pair(PLUS, 9, 9));
        due.hasMeasure(x, 10, 1, 18, 16, 3);
        x.made(false, 2, 1, 3, 0, 0);
        due.is("[3] * [1, 3]", 12, x.pair(TIMES, 1, 11));
        due.hasShape(x, 12, 1, 3);
        x.made(false, 4, 5, 4, 2, 3);
        due.is("[2, 3] - [5, 4, 2, 3]", 14, x.pair(MINUS, 0, 13));
        due.hasShape(x, 14, 5, 4, 2, 3);
        due.holds(x, 15, 0, 6 + 3 + 2 + 18 + 2 + 12 + 6 + 240, MeasuredTensors.NONE);
    }

    private static void sumsProducts(Due due) {
        due.about("a @ b (3): [m, n] @ [n] is [m]; [m, n] @ [n, p] is [m, p]; [n] @ [n, p] is [p]; [n] @ [n] is []");
        MeasuredTensors x = new MeasuredTensors();
        x.begin(4);
        x.made(false, 2, 3, 5, 0, 0);
        x.made(true, 1, 5, 0, 0, 0);
        x.made(true, 2, 5, 4, 0, 0);
        due.is("[3, 5] @ [5]", 3, x.pair(MATRIX, 0, 1));
        due.hasShape(x, 3, 3);
        due.hasMeasure(x, 3, 5, 34, 20, 1);
        due.is("[3, 5] @ [5, 4]", 4, x.pair(MATRIX, 0, 2));
        due.hasShape(x, 4, 3, 4);
        due.hasMeasure(x, 4, 5, 34, 20, 1);
        due.is("[5] @ [5, 4]", 5, x.pair(MATRIX, 1, 2));
        due.hasShape(x, 5, 4);
        due.hasMeasure(x, 5, 5, 33, 8, 1);
        due.is("[5] @ [5]", 6, x.pair(MATRIX, 1, 1));
        due.hasShape(x, 6);
        due.hasMeasure(x, 6, 5, 33, 8, 1);
        due.holds(x, 7, 0, 15 + 5 + 20 + 15 + 60 + 20 + 5, MeasuredTensors.NONE);
        x.over(1, 3, 1);
        x.over(2, 6, 5);
        due.is("[5] / 3 @ [5, 4] / (6 / 5)", 9, x.pair(MATRIX, 7, 8));
        due.hasMeasure(x, 9, 5, 16 + 18 + 3, 4 + 5, 9);
        x.made(false, 2, 2, 1, 0, 0);
        x.made(false, 1, 1, 0, 0, 0);
        due.is("[2, 1] @ [1]", 12, x.pair(MATRIX, 10, 11));
        due.hasShape(x, 12, 2);
        due.hasMeasure(x, 12, 1, 32, 32, 1);
        x.made(false, 2, 1, 3, 0, 0);
        due.is("[2, 1] @ [1, 3]", 14, x.pair(MATRIX, 10, 13));
        due.hasShape(x, 14, 2, 3);
        due.is("[1] @ [1, 3]", 15, x.pair(MATRIX, 11, 13));
        due.hasShape(x, 15, 3);
    }

    private static void isWrong(Due due) {
        due.about("WRONG: shapes are not as they must be");
        MeasuredTensors x = new MeasuredTensors();
        x.made(false, 2, 2, 3, 0, 0);
        x.made(false, 1, 2, 0, 0, 0);
        x.made(false, 2, 3, 2, 0, 0);
        x.made(false, 0, 0, 0, 0, 0);
        x.made(false, 3, 3, 2, 2, 0);
        x.made(false, 2, 1, 3, 0, 0);
        for (int how = PLUS; how <= TIMES; how++) {
            due.is("[2, 3] with [2]", WRONG, x.pair(how, 0, 1));
            due.is("[2] with [2, 3]", WRONG, x.pair(how, 1, 0));
            due.is("[2, 3] with [3, 2]", WRONG, x.pair(how, 0, 2));
            due.is("[3, 2] with [3, 2, 2]", WRONG, x.pair(how, 2, 4));
            due.is("[1, 3] with [2, 3]", WRONG, x.pair(how, 5, 0));
        }
        due.is("[2, 3] @ [2]", WRONG, x.pair(MATRIX, 0, 1));
        due.is("[2, 3] @ [2, 3]", WRONG, x.pair(MATRIX, 0, 0));
        due.is("[2, 3] @ []", WRONG, x.pair(MATRIX, 0, 3));
        due.is("[] @ [2]", WRONG, x.pair(MATRIX, 3, 1));
        due.is("[] @ []", WRONG, x.pair(MATRIX, 3, 3));
        due.is("[2, 3] @ [3, 2, 2]", WRONG, x.pair(MATRIX, 0, 4));
        due.is("[3, 2, 2] @ [2]", WRONG, x.pair(MATRIX, 4, 1));
        due.is("[2] @ [3, 2]", WRONG, x.pair(MATRIX, 1, 2));
        due.holds(x, 6, 0, 6 + 2 + 6 + 1 + 12 + 3, MeasuredTensors.NONE);
    }

    private static void isFull(Due due) {
        due.about("FULL: a result has more than 65536 cells, a MEASURE is beyond its bounds, or WORK beyond 1000000");
        MeasuredTensors x = new MeasuredTensors();
        x.made(false, 2, 257, 1, 0, 0);
        x.made(false, 2, 1, 256, 0, 0);
        x.made(false, 2, 256, 1, 0, 0);
        due.is("65792 cells", FULL, x.pair(MATRIX, 0, 1));
        due.is("65536 cells", 3, x.pair(MATRIX, 2, 1));
        x.made(false, 2, 1, 4096, 0, 0);
        due.is("256 x 4096 cells", FULL, x.pair(MATRIX, 2, 4));
        x.begin(0);
        x.made(false, 2, 250, 250, 0, 0);
        due.is("work 15.6 million", FULL, x.pair(MATRIX, 0, 0));
        x.made(false, 2, 250, 14, 0, 0);
        due.is("work 62500 + 3500 + 875000", 2, x.pair(MATRIX, 0, 1));
        due.is("another 875000", FULL, x.pair(MATRIX, 0, 1));
        due.holds(x, 3, 0, 941000, MeasuredTensors.NONE);

        x.begin(0);
        x.number(1, Integer.MAX_VALUE);
        x.pair(TIMES, 0, 0);
        due.hasMeasure(x, 1, 1, 2, 0, 4611686014132420609L);
        x.number(1, 3);
        x.number(1, 5);
        due.is("q of (2^31 - 1)^2 by 3", FULL, x.pair(TIMES, 1, 2));
        due.is("lcm of (2^31 - 1)^2 and 5", FULL, x.pair(PLUS, 1, 3));
        due.is("lcm with itself", 4, x.pair(MINUS, 1, 1));
        due.hasMeasure(x, 4, 1, 3, 0, 4611686014132420609L);
        due.is("q of 2^124", FULL, x.pair(TIMES, 1, 1));
        due.holds(x, 5, 0, 5, MeasuredTensors.NONE);
        measureOf4000(due);
    }

    private static void measureOf4000(Due due) {
        due.about("r and e at most 4000");
        MeasuredTensors x = new MeasuredTensors();
        x.begin(64);
        x.made(true, 0, 0, 0, 0, 0);
        for (int k = 0; k < 5; k++) {
            x.pair(TIMES, k, k);
        }
        due.hasMeasure(x, 5, 1, 480, 2048, 1);
        due.is("e 4096", FULL, x.pair(TIMES, 5, 5));
        due.is("e 3072", 6, x.pair(TIMES, 5, 4));
        due.is("e 3584", 7, x.pair(TIMES, 6, 3));
        due.is("e 3840", 8, x.pair(TIMES, 7, 2));
        due.is("e 3968", 9, x.pair(TIMES, 8, 1));
        x.made(false, 0, 0, 0, 0, 0);
        due.is("e 3984", 11, x.pair(TIMES, 9, 10));
        due.is("e 4000", 12, x.pair(TIMES, 11, 10));
        due.hasMeasure(x, 12, 1, 480 + 240 + 120 + 60 + 30 + 32, 4000, 1);
        x.number(1, 2);
        due.is("e 4001", FULL, x.pair(TIMES, 12, 13));
        due.is("e 4000 + 4000", 14, x.pair(PLUS, 12, 12));

        x.begin(0);
        x.made(true, 0, 0, 0, 0, 0);
        for (int k = 0; k < 8; k++) {
            x.pair(TIMES, k, k);
        }
        x.pair(TIMES, 8, 3);
        x.pair(TIMES, 9, 1);
        x.number(1023, 1);
        due.is("r 4000", 12, x.pair(TIMES, 11, 10));
        due.hasMeasure(x, 12, 1, 4000, 0, 1);
        due.is("r 4001 of a sum", FULL, x.pair(PLUS, 12, 0));
        x.number(1, 1);
        due.is("r 4001 of a product", FULL, x.pair(TIMES, 12, 13));
        x.number(0, 1);
        due.is("r 4000 of a product", 15, x.pair(TIMES, 12, 14));
    }

    private static void findsSlopes(Due due) {
        due.about("in a * b, a @ b, conv joined with the other argument's as a * b joins r, e and q");
        MeasuredTensors x = new MeasuredTensors();
        x.begin(4);
        x.made(true, 2, 3, 5, 0, 0);
        x.made(true, 2, 5, 9, 0, 0);
        x.pair(MATRIX, 0, 1);
        x.made(true, 1, 9, 0, 0, 0);
        x.pair(MINUS, 3, 2);
        x.number(5, 6);
        x.pair(TIMES, 5, 4);
        x.call(5, 1, 6, 0, 0, 0, 0);
        x.loss(7);
        due.hasSlope(x, 7, 1, 1, 0, 1);
        due.hasSlope(x, 6, 1, 1, 0, 1);
        due.hasSlope(x, 5, 1, 1 + 34 + 5, 8, 1);
        due.hasSlope(x, 4, 1, 1 + 3, 1, 3);
        due.hasSlope(x, 3, 1, 4 + 2, 1, 3);
        due.hasSlope(x, 2, 1, 4, 1, 3);
        due.hasSlope(x, 1, 1, 4 + 15 + 2, 5, 3);
        due.hasSlope(x, 0, 1, 4 + 15 + 4, 5, 3);
        findsSlopesOfRows(due);
    }

    private static void findsSlopesOfRows(Due due) {
        due.about("p (1 without it) for a, m (1 without it) for b");
        MeasuredTensors x = new MeasuredTensors();
        x.begin(4);
        x.made(false, 1, 5, 0, 0, 0);
        x.made(true, 2, 5, 9, 0, 0);
        x.pair(MATRIX, 0, 1);
        x.made(true, 2, 6, 9, 0, 0);
        x.pair(MATRIX, 3, 2);
        x.made(true, 1, 6, 0, 0, 0);
        x.pair(MATRIX, 4, 5);
        x.loss(6);
        due.hasSlope(x, 5, 1, 1 + 53, 16 + 4 + 4, 1);
        due.hasSlope(x, 4, 1, 1 + 15, 4, 1);
        due.hasSlope(x, 3, 1, 16 + 34, 4 + 20, 1);
        due.hasSlope(x, 2, 1, 16 + 15 + 3, 8, 1);
        due.hasSlope(x, 1, 1, 34 + 16, 8 + 16, 1);
        due.hasSlope(x, 0, 1, 34 + 15 + 4, 8 + 4, 1);
    }

    private static void refuses(Due due) {
        due.about("IndexOutOfBoundsException: there is no such tensor; IllegalArgumentException: another how");
        MeasuredTensors x = new MeasuredTensors();
        x.made(false, 1, 2, 0, 0, 0);
        x.index(1, 2, 0, 0, 0, 2);
        int[][] missing = {{0, 0, 1}, {1, 1, 0}, {2, -1, 0}, {3, 0, -1}, {4, 1, 0}, {-1, 0, 1},
            {0, Integer.MIN_VALUE, 0}, {0, 0, Integer.MAX_VALUE}};
        for (int[] k : missing) {
            due.isOutOfBounds("pair(" + k[0] + ", " + k[1] + ", " + k[2] + ")", () -> x.pair(k[0], k[1], k[2]));
        }
        for (int how : new int[] {-1, 4, Integer.MIN_VALUE, Integer.MAX_VALUE}) {
            due.isIllegal("pair(" + how + ", 0, 0)", () -> x.pair(how, 0, 0));
        }
        due.holds(x, 1, 1, 2, MeasuredTensors.NONE);
    }
}
