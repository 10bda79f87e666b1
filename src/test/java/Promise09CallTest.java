/** Promise 9: call, its shapes, terms and measures; what is WRONG stands in Promise09WrongCallTest. */
final class Promise09CallTest {
    private static final int FULL = MeasuredTensors.FULL, NONE = MeasuredTensors.NONE;

    public static void main(String[] args) {
        Due due = new Due("Promise 9");
        cellsAlone(due);
        sums(due);
        convolutions(due);
        pools(due);
        moves(due);
        indices(due);
        gaps(due);
        isFull(due);
        due.end();
    }

    private static MeasuredTensors begun(int p) {
        MeasuredTensors x = new MeasuredTensors();
        x.begin(p);
        return x;
    }

    /** Calls of one tensor and no whole number. */
    private static int plain(MeasuredTensors x, int what, int a) {
        return x.call(what, 1, a, Integer.MAX_VALUE, 0, -1, -1);
    }

    private static int numbered(MeasuredTensors x, int what, int a, int k) {
        return x.call(what, 1, a, Integer.MIN_VALUE, 1, k, -1);
    }

    private static int two(MeasuredTensors x, int what, int a, int b) {
        return x.call(what, 2, a, b, 0, -1, -1);
    }

    private static void cellsAlone(Due due) {
        due.about("Calls 0 relu, 1 abs, 2 square, 3 step, 4 stop. Terms 1; 1");
        MeasuredTensors x = begun(6);
        x.made(true, 2, 2, 3, 0, 0);
        due.is("over(0, 6, 5)", 1, x.over(0, 6, 5));
        due.is("relu", 2, plain(x, 0, 1));
        due.hasMeasure(x, 2, 1, 18, 7, 3);
        due.is("abs", 3, plain(x, 1, 1));
        due.hasMeasure(x, 3, 1, 18, 7, 3);
        due.is("square", 4, plain(x, 2, 1));
        due.hasMeasure(x, 4, 1, 36, 14, 9);
        due.is("step", 5, plain(x, 3, 1));
        due.hasMeasure(x, 5, 1, 1, 0, 1);
        due.is("stop", 6, plain(x, 4, 1));
        due.hasMeasure(x, 6, 1, 18, 7, 3);
        for (int t = 1; t <= 6; t++) {
            due.hasShape(x, t, 2, 3);
        }
        due.holds(x, 7, 0, 42, NONE);
    }

    private static void sums(Due due) {
        due.about("5 sum, 6 mean, 7 high. sum(a), mean(a): of all cells, no sides; sum(a; k), mean(a; k): along side "
                + "k, which goes");
        MeasuredTensors x = begun(6);
        x.made(true, 4, 2, 3, 4, 5);
        due.is("sum(a)", 1, plain(x, 5, 0));
        due.hasShape(x, 1);
        due.hasMeasure(x, 1, 120, 15 + 7, 6, 1);
        due.is("mean(a)", 2, plain(x, 6, 0));
        due.hasShape(x, 2);
        due.hasMeasure(x, 2, 120, 15 + 7 + 1, 6 + 3, 15);
        int[][] left = {{3, 4, 5}, {2, 4, 5}, {2, 3, 5}, {2, 3, 4}};
        int[] doublings = {1, 2, 2, 3};
        int[] twos = {1, 0, 2, 0};
        int[] odd = {1, 3, 1, 5};
        for (int k = 0; k < 4; k++) {
            int t = 3 + 3 * k;
            due.is("sum(a; k)", t, numbered(x, 5, 0, k));
            due.hasShape(x, t, left[k]);
            due.hasMeasure(x, t, k + 2, 15 + doublings[k], 6, 1);
            due.is("mean(a; k)", t + 1, numbered(x, 6, 0, k));
            due.hasShape(x, t + 1, left[k]);
            due.hasMeasure(x, t + 1, k + 2, 15 + doublings[k] + 1, 6 + twos[k], odd[k]);
            due.is("high(a; k)", t + 2, numbered(x, 7, 0, k));
            due.hasShape(x, t + 2, left[k]);
            due.hasMeasure(x, t + 2, 1, 15, 6, 1);
        }
        due.holds(x, 15, 0, 120 + 240 + 8 * 120 + 60 + 40 + 30 + 24, NONE);
        x.begin(0);
        x.number(1, 3);
        due.is("sum of a number", 1, plain(x, 5, 0));
        due.hasMeasure(x, 1, 1, 1, 0, 3);
        due.is("mean of a number", 2, plain(x, 6, 0));
        due.hasMeasure(x, 2, 1, 2, 0, 3);
        x.made(false, 1, 4096, 0, 0, 0);
        due.is("mean(a; 0) of 4096", 4, numbered(x, 6, 3, 0));
        due.hasShape(x, 4);
        due.hasMeasure(x, 4, 4096, 16 + 12 + 1, 16 + 12, 1);
    }

    private static void convolutions(Due due) {
        due.about("8 conv. conv(x, f; s): [o, (h - p) / s + 1, (w - q) / s + 1] (rounded down). Terms c p q");
        MeasuredTensors x = begun(3);
        x.made(false, 3, 2, 5, 7, 0);
        x.made(true, 4, 3, 2, 2, 3);
        int[][] shapes = {{3, 4, 5}, {3, 2, 3}, {3, 2, 2}, {3, 1, 2}, {3, 1, 1}};
        for (int s = 1; s <= 5; s++) {
            due.is("conv by " + s, s + 1, x.call(8, 2, 0, 1, 1, s, -1));
            due.hasShape(x, s + 1, shapes[s - 1]);
            due.hasMeasure(x, s + 1, 12, 16 + 15 + 4, 16 + 3, 1);
        }
        due.is("conv by 16", 7, x.call(8, 2, 0, 1, 1, 16, -1));
        due.hasShape(x, 7, 3, 1, 1);
        due.holds(x, 8, 0, 70 + 36 + 12 * (60 + 18 + 12 + 6 + 3 + 3), NONE);
        x.made(true, 4, 1, 2, 5, 7);
        due.is("conv of all", 9, x.call(8, 2, 0, 8, 1, 1, -1));
        due.hasShape(x, 9, 1, 1, 1);
        due.hasMeasure(x, 9, 70, 16 + 15 + 7, 19, 1);
        x.over(0, 3, 1);
        x.over(1, 15, 1);
        due.is("conv of fractions", 12, x.call(8, 2, 10, 11, 1, 2, -1));
        due.hasMeasure(x, 12, 12, 17 + 16 + 4, 19, 45);
        convolutionSlopes(due);
    }

    private static void convolutionSlopes(Due due) {
        due.about("o p q for x; for f how many cells are told by (y, z)");
        MeasuredTensors x = begun(3);
        x.made(false, 3, 2, 5, 7, 0);
        x.made(true, 4, 3, 2, 2, 3);
        x.call(8, 2, 0, 1, 1, 1, -1);
        plain(x, 5, 2);
        x.loss(3);
        due.hasSlope(x, 2, 1, 1, 0, 1);
        due.hasSlope(x, 0, 1, 1 + 15 + 5, 3, 1);
        due.hasSlope(x, 1, 1, 1 + 16 + 5, 16, 1);
    }

    private static void pools(Due due) {
        due.about("9 pool, 10 tops. means of p times p cells, [c, h / p, w / p]; tops(x; p) the greatest ones");
        MeasuredTensors x = begun(3);
        x.made(false, 3, 3, 6, 12, 0);
        int[] squares = {1, 2, 3, 6};
        int[] doublings = {0, 2, 4, 6};
        int[] twos = {0, 2, 0, 2};
        int[] odd = {1, 1, 9, 9};
        for (int k = 0; k < 4; k++) {
            int p = squares[k];
            due.is("pool by " + p, 1 + 2 * k, numbered(x, 9, 0, p));
            due.hasShape(x, 1 + 2 * k, 3, 6 / p, 12 / p);
            due.hasMeasure(x, 1 + 2 * k, p * p, 16 + doublings[k] + 1, 16 + twos[k], odd[k]);
            due.is("tops by " + p, 2 + 2 * k, numbered(x, 10, 0, p));
            due.hasShape(x, 2 + 2 * k, 3, 6 / p, 12 / p);
            due.hasMeasure(x, 2 + 2 * k, 1, 16, 16, 1);
        }
        due.holds(x, 9, 0, 5 * 216 + 216 + 54 + 24 + 6, NONE);
        plain(x, 5, 5);
        plain(x, 5, 6);
        x.loss(9);
        due.hasSlope(x, 0, 1, 2, 0, 9);
        x.loss(10);
        due.hasSlope(x, 0, 1, 1, 0, 1);
    }

    private static void moves(Due due) {
        due.about("12 turn, 13 part, 14 join, 15 pad. Terms 1; 1");
        MeasuredTensors x = begun(5);
        x.made(true, 3, 4, 6, 5, 0);
        x.over(0, 12, 7);
        due.is("pad by 1", 2, numbered(x, 15, 1, 1));
        due.hasShape(x, 2, 4, 8, 7);
        due.hasMeasure(x, 2, 1, 18, 7, 3);
        due.is("pad by 16", 3, numbered(x, 15, 0, 16));
        due.hasShape(x, 3, 4, 38, 37);
        due.is("part from 1 to before 3", 4, x.call(13, 1, 1, 0, 2, 1, 3));
        due.hasShape(x, 4, 2, 6, 5);
        due.hasMeasure(x, 4, 1, 18, 7, 3);
        due.is("the whole part", 5, x.call(13, 1, 0, 0, 2, 0, 4));
        due.hasShape(x, 5, 4, 6, 5);
        due.is("the last part", 6, x.call(13, 1, 0, 0, 2, 3, 4));
        due.hasShape(x, 6, 1, 6, 5);
        x.over(6, 5, 1);
        due.is("join", 8, two(x, 14, 7, 4));
        due.hasShape(x, 8, 3, 6, 5);
        due.hasMeasure(x, 8, 1, 18, 7, 15);
        x.made(false, 2, 3, 7, 0, 0);
        x.over(9, 6, 1);
        due.is("turn", 11, plain(x, 12, 10));
        due.hasShape(x, 11, 7, 3);
        due.hasMeasure(x, 11, 1, 17, 17, 3);
        x.made(true, 1, 2, 0, 0, 0);
        due.is("join of rows", 13, two(x, 14, 12, 12));
        due.hasShape(x, 13, 4);
        due.hasMeasure(x, 13, 1, 15, 5, 1);
        due.is("part of a row", 14, x.call(13, 1, 13, 0, 2, 2, 3));
        due.hasShape(x, 14, 1);
        x.made(true, 4, 2, 2, 3, 4);
        due.is("join of four sides", 16, two(x, 14, 15, 15));
        due.hasShape(x, 16, 4, 2, 3, 4);
        moveSlopes(due);
    }

    private static void moveSlopes(Due due) {
        due.about("from each use of it in a result with a slope: that of the result's slope");
        MeasuredTensors x = begun(5);
        x.made(true, 3, 4, 6, 5, 0);
        numbered(x, 15, 0, 1);
        x.call(13, 1, 1, 0, 2, 1, 3);
        two(x, 14, 2, 1);
        numbered(x, 7, 3, 1);
        plain(x, 12, 4);
        plain(x, 0, 5);
        plain(x, 1, 6);
        plain(x, 5, 7);
        x.over(8, 3, 2);
        x.loss(9);
        for (int t = 2; t <= 8; t++) {
            due.hasSlope(x, t, 1, 1 + 2, 0, 3);
        }
        due.hasSlope(x, 1, 2, 3 + 1, 0, 3);
        due.hasSlope(x, 0, 1, 4, 0, 3);
    }

    private static void indices(Due due) {
        due.about("16 pick, 17 hinge: a tensor by its number, an index i as -1 - i");
        MeasuredTensors x = begun(5);
        x.made(true, 2, 7, 3, 0, 0);
        x.over(0, 3, 2);
        x.index(1, 9, 0, 0, 0, 7);
        x.index(0, 0, 0, 0, 0, 5);
        due.is("pick", 2, two(x, 16, 1, -1));
        due.hasShape(x, 2, 9, 3);
        due.hasMeasure(x, 2, 1, 17, 5, 3);
        x.made(true, 1, 5, 0, 0, 0);
        x.over(3, 10, 1);
        due.is("hinge", 5, two(x, 17, 4, -2));
        due.hasShape(x, 5);
        due.hasMeasure(x, 5, 5, 16 + 3 + 3, 6, 5);
        due.holds(x, 6, 2, 21 + 21 + 27 + 5 + 5 + 5, NONE);
        plain(x, 6, 2);
        x.pair(2, 6, 5);
        x.loss(7);
        due.hasSlope(x, 6, 1, 1 + 22, 6, 5);
        due.hasSlope(x, 2, 1, 23 + 1, 6, 5 * 27);
        due.hasSlope(x, 1, 1, 24 + 4, 6, 5 * 27);
        due.hasSlope(x, 5, 1, 1 + 17 + 5 + 1, 5, 81);
        due.hasSlope(x, 4, 1, 24 + 3, 5, 81);
        x.made(true, 1, 1, 0, 0, 0);
        x.index(0, 0, 0, 0, 0, 1);
        due.is("hinge of one", 9, two(x, 17, 8, -3));
        due.hasMeasure(x, 9, 1, 18, 5, 1);
    }

    private static void gaps(Due due) {
        due.about("18 gap. gap: as a - b, its square, sum, / 2");
        MeasuredTensors x = begun(5);
        x.made(true, 2, 2, 3, 0, 0);
        x.over(0, 3, 2);
        x.made(false, 2, 2, 3, 0, 0);
        x.over(2, 15, 1);
        due.is("gap", 4, two(x, 18, 1, 3));
        due.hasShape(x, 4);
        due.hasMeasure(x, 4, 6, 2 * 18 + 3 + 1, 2 * 16 + 1, 225);
        due.is("gap with itself", 5, two(x, 18, 0, 0));
        due.hasMeasure(x, 5, 6, 2 * 16 + 3 + 1, 2 * 5 + 1, 1);
        due.holds(x, 6, 0, 36, NONE);
        x.loss(4);
        due.hasSlope(x, 1, 1, 1 + 18 + 1, 16, 15);
        due.hasSlope(x, 3, 1, 1 + 18 + 1, 16, 15);
        due.hasSlope(x, 0, 1, 20 + 2, 16, 45);
        x.loss(5);
        due.hasSlope(x, 0, 2, 1 + 16 + 1 + 1, 5, 1);
        x.number(1, 2);
        x.number(0, 1);
        due.is("gap of numbers", 8, two(x, 18, 6, 7));
        due.hasMeasure(x, 8, 1, 2 * 2 + 1, 3, 1);
    }

    private static void isFull(Due due) {
        due.about("FULL: a result has more than 65536 cells or a side above 4096");
        MeasuredTensors x = begun(0);
        x.made(false, 1, 2048, 0, 0, 0);
        x.made(false, 1, 2049, 0, 0, 0);
        due.is("join to 4096", 2, two(x, 14, 0, 0));
        due.is("join to 4097", FULL, two(x, 14, 0, 1));
        x.made(false, 2, 200, 256, 0, 0);
        x.made(false, 2, 56, 256, 0, 0);
        x.made(false, 2, 57, 256, 0, 0);
        due.is("join to 65536 cells", 6, two(x, 14, 3, 4));
        due.is("join to 65792 cells", FULL, two(x, 14, 3, 5));
        x.made(false, 3, 1, 4064, 1, 0);
        x.made(false, 3, 1, 1, 4065, 0);
        due.is("pad to 4096 x 33 cells", FULL, numbered(x, 15, 7, 16));
        due.is("pad by 1 to 4066 x 3", 9, numbered(x, 15, 7, 1));
        x.made(false, 3, 1, 1, 4095, 0);
        due.is("pad to a side of 4097", FULL, numbered(x, 15, 10, 1));
        x.made(false, 2, 1, 256, 0, 0);
        x.index(1, 256, 0, 0, 0, 1);
        x.index(1, 257, 0, 0, 0, 1);
        due.is("pick of 65792 cells", FULL, two(x, 16, 11, -2));
        due.is("pick of 65536 cells", 12, two(x, 16, 11, -1));
        x.made(false, 3, 1, 16, 16, 0);
        x.made(true, 4, 257, 1, 1, 1);
        x.made(true, 4, 256, 1, 1, 1);
        due.is("conv of 65792 cells", FULL, x.call(8, 2, 13, 14, 1, 1, 0));
        due.is("conv of 65536 cells", 16, x.call(8, 2, 13, 15, 1, 1, 0));
        fullWork(due);
        fullMeasures(due);
    }

    private static void fullWork(Due due) {
        due.about("FULL: WORK beyond 1000000");
        MeasuredTensors x = begun(0);
        x.made(false, 3, 4, 128, 128, 0);
        for (int k = 1; k < 14; k++) {
            due.is("relu", k, plain(x, 0, 0));
        }
        x.made(false, 2, 4096, 4, 0, 0);
        due.holds(x, 15, 0, 14 * 65536 + 16384, NONE);
        due.is("sum up to work 999424", 15, plain(x, 5, 0));
        int work = x.all(2);
        due.is("another sum", FULL, plain(x, 5, 0));
        due.is("a gap", FULL, two(x, 18, 0, 0));
        due.is("a pool", FULL, numbered(x, 9, 0, 2));
        due.is("a high", FULL, numbered(x, 7, 0, 0));
        due.is("tops by 8", FULL, numbered(x, 10, 0, 8));
        due.is("tops by 16", 16, numbered(x, 10, 0, 16));
        due.holds(x, 17, 0, work + 256, NONE);
    }

    private static void fullMeasures(Due due) {
        due.about("FULL: a MEASURE is beyond its bounds");
        MeasuredTensors x = begun(0);
        x.made(true, 1, 3, 0, 0, 0);
        for (int k = 0; k < 8; k++) {
            plain(x, 2, k);
        }
        due.hasMeasure(x, 8, 1, 3840, 0, 1);
        due.is("square to r 7680", FULL, plain(x, 2, 8));
        due.is("gap to r 7685", FULL, two(x, 18, 8, 8));
        x.over(8, 1, 1 << 30);
        x.over(9, 1, 1 << 30);
        x.over(10, 1, 1 << 30);
        x.over(11, 1, 1 << 30);
        x.over(12, 1, 1 << 30);
        due.hasMeasure(x, 13, 1, 3995, 0, 1);
        x.over(13, 1, 2);
        due.is("mean to r 4000", 15, plain(x, 6, 14));
        due.is("sum to r 3999", 16, plain(x, 5, 14));
        x.over(14, 1, 1);
        due.is("mean to r 4001", FULL, plain(x, 6, 17));
        due.is("sum to r 4000", 18, plain(x, 5, 17));
        x.over(17, 1, 2);
        due.is("sum to r 4002", FULL, plain(x, 5, 19));
        x.index(0, 0, 0, 0, 0, 3);
        due.is("hinge to r 4000", 20, two(x, 17, 13, -1));
        due.is("hinge to r 4002", FULL, two(x, 17, 14, -1));
        due.is("step of the widest", 21, plain(x, 3, 19));
        x.made(true, 1, 3, 0, 0, 0);
        due.is("join of the widest", 23, two(x, 14, 19, 22));
        due.hasMeasure(x, 23, 1, 4000, 0, 1);
    }
}
