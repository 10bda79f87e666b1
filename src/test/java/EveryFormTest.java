/**
 * "WHAT IS MADE .. shapes, and TERMS: how many numbers are added up in a cell of the result; and how many cells of the
 * result a cell of an argument goes into": each form in the document's order and under its words, with the measure of
 * the result and, "from each use of it in a result with a slope: that of the result's slope", those of its arguments.
 */
final class EveryFormTest {
    /** Of the arguments a and b, and of the result's slope, for arguments and results of any shape: r, e and q. */
    private static final int[] A = {17, 5, 3}, B = {19, 17, 5}, S = {3, 1, 7};
    private static final int[] NO_SLOPE = {};

    private final Due due = new Due("Every form");
    private MeasuredTensors x;
    private int a;
    private int b;
    private int made;

    public static void main(String[] args) {
        EveryFormTest test = new EveryFormTest();
        test.sumsAndDifferences();
        test.products();
        test.negationAndDivision();
        test.matrixProducts();
        test.cellsAlone();
        test.stepAndStop();
        test.sums();
        test.sumsAlongASide();
        test.greatest();
        test.convolutions();
        test.squaresOfCells();
        test.otherPlaces();
        test.joins();
        test.picks();
        test.hinges();
        test.gaps();
        test.due.end();
    }

    /** The arguments a = param / (3 / 2) and b = input / (10 / 7), with p 5. */
    private void with(String words, int[] shapeOfA, int[] shapeOfB) {
        due.about(words);
        x = new MeasuredTensors();
        x.begin(5);
        a = x.over(Ask.param(x, shapeOfA), 3, 2);
        b = x.over(Ask.input(x, shapeOfB), 10, 7);
        due.hasMeasure(x, a, 1, A[0], A[1], A[2]);
        due.hasMeasure(x, b, 1, B[0], B[1], B[2]);
    }

    private void with(String words, int... shapeOfA) {
        with(words, shapeOfA, new int[0]);
    }

    /** The result is the newest tensor; its work is its cells times its terms. */
    private void is(int result, int[] shape, int terms, int r, int e, long q) {
        made = result;
        due.is("the number", x.all(0) - 1, made);
        due.hasShape(x, made, shape);
        due.hasMeasure(x, made, terms, r, e, q);
        int others = 2 * x.told(a, 5) + 2 * x.told(b, 5);
        due.is("the work", others + x.told(made, 5) * terms, x.all(2));
    }

    /**
     * "THE SLOPES, once a tensor without sides is the LOSS": it is sum(result) / (14 / 3), so that the slope of the
     * result is S; what a and b then have.
     */
    private void slopes(int[] ofA, int[] ofB) {
        int total = x.told(made, 0) == 0 ? made : Ask.one(x, Ask.SUM, made);
        x.loss(x.over(total, 14, 3));
        due.hasSlope(x, total, 1, S[0], S[1], S[2]);
        slope(made, S);
        slope(a, ofA);
        slope(b, ofB);
    }

    private void slope(int t, int[] measure) {
        if (measure == NO_SLOPE) {
            due.hasNoSlope(x, t);
        } else {
            due.hasSlope(x, t, 1, measure[0], measure[1], measure[2]);
        }
    }

    private static int[] wider(int[] measure, int bits) {
        return new int[] {measure[0] + bits, measure[1], measure[2]};
    }

    /** As a * b joins r, e and q. */
    private static int[] times(int[] one, int[] other) {
        return new int[] {one[0] + other[0], one[1] + other[1], one[2] * other[2]};
    }

    private static int[] of(int... sides) {
        return sides;
    }

    /** Greater r + 1, greater e, least common multiple of q; the slopes as they are, taken so often. */
    private void sumsAndDifferences() {
        String words = "a + b, a - b: cell by cell, the smaller one again and again. Terms: 1; 1 for the larger, for "
                + "the smaller how often it is taken";
        for (int how = Ask.PLUS; how <= Ask.MINUS; how++) {
            with(words, of(2, 3), of(2, 3));
            is(x.pair(how, a, b), of(2, 3), 1, 19 + 1, 17, 15);
            slopes(S, S);
            with(words, of(2, 3), of(3));
            is(x.pair(how, a, b), of(2, 3), 1, 19 + 1, 17, 15);
            slopes(S, wider(S, 1));
            with(words, of(4), of(3, 2, 4));
            is(x.pair(how, a, b), of(3, 2, 4), 1, 19 + 1, 17, 15);
            slopes(wider(S, 3), S);
            with(words, of(), of(3, 5, 2, 4));
            is(x.pair(how, b, a), of(3, 5, 2, 4), 1, 19 + 1, 17, 15);
            slopes(wider(S, 7), S);
        }
        with("greater r + 1, greater e", of(2));
        is(x.pair(Ask.PLUS, a, a), of(2), 1, 17 + 1, 5, 3);
    }

    /** Sum of r, of e, product of q; "joined with the other argument's as a * b joins r, e and q". */
    private void products() {
        String words = "a * b: sum of r, and of L(terms); sum of e; product of q";
        with(words, of(2, 3), of(2, 3));
        is(x.pair(Ask.TIMES, a, b), of(2, 3), 1, 17 + 19, 5 + 17, 3 * 5);
        slopes(times(S, B), times(S, A));
        with(words, of(2, 3), of(3));
        is(x.pair(Ask.TIMES, b, a), of(2, 3), 1, 17 + 19, 5 + 17, 3 * 5);
        slopes(times(S, B), wider(times(S, A), 1));
        with(words, of(), of(3, 3));
        is(x.pair(Ask.TIMES, a, b), of(3, 3), 1, 17 + 19, 5 + 17, 3 * 5);
        slopes(wider(times(S, B), 4), times(S, A));
    }

    private void negationAndDivision() {
        with("-a. Terms 1; 1. All others as their argument", 2, 3);
        is(x.turned(a), of(2, 3), 1, 17, 5, 3);
        slopes(S, NO_SLOPE);
        with("a / f, f = u / l: as a * (l / u)", 2, 3);
        is(x.over(a, 6, 5), of(2, 3), 1, 17 + 3, 5 + 1, 3 * 3);
        slopes(times(S, of(3, 1, 3)), NO_SLOPE);
        with("a / f, f = u / l: as a * (l / u)", 2, 3);
        is(x.over(a, 1, 1), of(2, 3), 1, 17 + 1, 5, 3);
        slopes(wider(S, 1), NO_SLOPE);
    }

    private void matrixProducts() {
        String words = "a @ b: sums over n. Terms n; p (1 without it) for a, m (1 without it) for b";
        with(words, of(2, 3), of(3));
        is(x.pair(Ask.MATRIX, a, b), of(2), 3, 17 + 19 + 2, 5 + 17, 3 * 5);
        slopes(times(S, B), wider(times(S, A), 1));
        with(words, of(6, 3), of(3, 5));
        is(x.pair(Ask.MATRIX, a, b), of(6, 5), 3, 17 + 19 + 2, 5 + 17, 3 * 5);
        slopes(wider(times(S, B), 3), wider(times(S, A), 3));
        with(words, of(3), of(3, 9));
        is(x.pair(Ask.MATRIX, a, b), of(9), 3, 17 + 19 + 2, 5 + 17, 3 * 5);
        slopes(wider(times(S, B), 4), times(S, A));
        with(words, of(3), of(3));
        is(x.pair(Ask.MATRIX, a, b), of(), 3, 17 + 19 + 2, 5 + 17, 3 * 5);
        slopes(times(S, B), times(S, A));
    }

    private void cellsAlone() {
        for (int what : new int[] {Ask.RELU, Ask.ABS}) {
            with("relu(a): a where it is above 0, else 0. abs(a). Terms 1; 1", 2, 3);
            is(Ask.one(x, what, a), of(2, 3), 1, 17, 5, 3);
            slopes(S, NO_SLOPE);
        }
        with("square: as a * a; its slope joined with the argument's, and r + 1", 2, 3);
        is(Ask.one(x, Ask.SQUARE, a), of(2, 3), 1, 17 + 17, 5 + 5, 3 * 3);
        slopes(wider(times(S, A), 1), NO_SLOPE);
    }

    /** Another use beside them is the only one that gives a slope. */
    private void stepAndStop() {
        for (int what : new int[] {Ask.STEP, Ask.STOP}) {
            with("step(a): 1 where a is above 0, else 0; its derivative is 0. stop(a): a; its derivative is 0", 2, 3);
            if (what == Ask.STEP) {
                is(Ask.one(x, what, a), of(2, 3), 1, 1, 0, 1);
            } else {
                is(Ask.one(x, what, a), of(2, 3), 1, 17, 5, 3);
            }
            int still = made;
            made = x.pair(Ask.PLUS, still, b);
            slopes(NO_SLOPE, wider(S, 3));
            slope(still, NO_SLOPE);
            made = x.pair(Ask.PLUS, still, a);
            slopes(S, NO_SLOPE);
            slope(still, NO_SLOPE);
        }
    }

    private void sums() {
        with("sum(a): of all cells, no sides. Terms: how many; 1. sum: r + L(terms), e, q", 2, 3);
        is(Ask.one(x, Ask.SUM, a), of(), 6, 17 + 3, 5, 3);
        slopes(S, NO_SLOPE);
        with("mean(a): of all cells, no sides. mean: as sum, then / terms (as a division)", 2, 3);
        is(Ask.one(x, Ask.MEAN, a), of(), 6, 17 + 3 + 1, 5 + 1, 3 * 3);
        slopes(times(S, of(1, 1, 3)), NO_SLOPE);
    }

    private void sumsAlongASide() {
        String words = "sum(a; k), mean(a; k): along side k, which goes. Terms: how many; 1";
        int[][] left = {{3, 5, 7}, {2, 5, 7}, {2, 3, 7}, {2, 3, 5}};
        int[] terms = {2, 3, 5, 7};
        int[] doublings = {1, 2, 3, 3};
        int[][] division = {{1, 1, 1}, {1, 0, 3}, {1, 0, 5}, {1, 0, 7}};
        for (int k = 0; k < 4; k++) {
            with(words, 2, 3, 5, 7);
            is(Ask.one(x, Ask.SUM, a, k), left[k], terms[k], 17 + doublings[k], 5, 3);
            slopes(S, NO_SLOPE);
            with(words, 2, 3, 5, 7);
            int[] mean = times(wider(A, doublings[k]), division[k]);
            is(Ask.one(x, Ask.MEAN, a, k), left[k], terms[k], mean[0], mean[1], mean[2]);
            slopes(times(S, division[k]), NO_SLOPE);
        }
    }

    private void greatest() {
        int[][] left = {{3, 5}, {2, 5}, {2, 3}};
        for (int k = 0; k < 3; k++) {
            with("high(a; k): its derivative is that of the first greatest one alone. Terms 1; 1", 2, 3, 5);
            is(Ask.one(x, Ask.HIGH, a, k), left[k], 1, 17, 5, 3);
            slopes(S, NO_SLOPE);
        }
    }

    private void convolutions() {
        String words = "conv(x, f; s): Terms c p q; o p q for x; for f how many cells are told by (y, z)";
        with(words, of(2, 5, 7), of(3, 2, 2, 3));
        is(Ask.two(x, Ask.CONV, a, b, 1), of(3, 4, 5), 12, 17 + 19 + 4, 5 + 17, 3 * 5);
        slopes(wider(times(S, B), 5), wider(times(S, A), 5));
        with(words, of(2, 5, 7), of(3, 2, 2, 3));
        is(Ask.two(x, Ask.CONV, a, b, 2), of(3, 2, 3), 12, 17 + 19 + 4, 5 + 17, 3 * 5);
        slopes(wider(times(S, B), 5), wider(times(S, A), 3));
        with(words, of(1, 4, 4), of(1, 1, 4, 4));
        is(Ask.two(x, Ask.CONV, a, b, 3), of(1, 1, 1), 16, 17 + 19 + 4, 5 + 17, 3 * 5);
        slopes(wider(times(S, B), 4), times(S, A));
    }

    private void squaresOfCells() {
        with("pool(x; p): means of p times p cells, [c, h / p, w / p]. Terms p p; 1", 2, 6, 12);
        is(Ask.one(x, Ask.POOL, a, 6), of(2, 1, 2), 36, 17 + 6 + 1, 5 + 2, 3 * 9);
        slopes(times(S, of(1, 2, 9)), NO_SLOPE);
        with("tops(x; p) the greatest ones (derivative: of the first one in order). Terms p p (tops: 1); 1", 2, 6, 12);
        is(Ask.one(x, Ask.TOPS, a, 6), of(2, 1, 2), 1, 17, 5, 3);
        slopes(S, NO_SLOPE);
    }

    private void otherPlaces() {
        with("reshape(a, shape): as many cells, in their order. Terms 1; 1", 2, 6);
        is(Ask.reshape(x, a, 3, 1, 4), of(3, 1, 4), 1, 17, 5, 3);
        slopes(S, NO_SLOPE);
        with("turn(a): [m, n] to [n, m]", 2, 6);
        is(Ask.one(x, Ask.TURN, a), of(6, 2), 1, 17, 5, 3);
        slopes(S, NO_SLOPE);
        with("part(a; i, j): of the first side those from i to before j", 5, 2, 3);
        is(Ask.one(x, Ask.PART, a, 1, 4), of(3, 2, 3), 1, 17, 5, 3);
        slopes(S, NO_SLOPE);
        with("pad(x; p): p 1 .. 16 zeros on each of the four edges", 2, 3, 4);
        is(Ask.one(x, Ask.PAD, a, 2), of(2, 7, 8), 1, 17, 5, 3);
        slopes(S, NO_SLOPE);
    }

    private void joins() {
        String words = "join(a, b): one behind the other along the first side; join: greater r, greater e, least "
                + "common multiple of q";
        with(words, of(2, 3), of(4, 3));
        is(Ask.two(x, Ask.JOIN, a, b), of(6, 3), 1, 19, 17, 15);
        slopes(S, S);
        with(words, of(4), of(4));
        is(Ask.two(x, Ask.JOIN, b, a), of(8), 1, 19, 17, 15);
        slopes(S, S);
    }

    private void picks() {
        with("pick(t, i): t [n, d], i an index [m] below at most n: [m, d], the rows told. Terms 1; m", 5, 3);
        is(Ask.two(x, Ask.PICK, a, Ask.index(x, 5, 9)), of(9, 3), 1, 17, 5, 3);
        slopes(wider(S, 4), NO_SLOPE);
    }

    private void hinges() {
        with("hinge(a, i): a [n], i an index [] below at most n. Terms n; n. hinge: r + 3 + L(n), e, q", 5);
        is(Ask.two(x, Ask.HINGE, a, Ask.index(x, 4)), of(), 5, 17 + 3 + 3, 5, 3);
        slopes(wider(S, 3), NO_SLOPE);
    }

    /** a - b has r 20, e 17, q 15; its square r 40, e 34, q 225; the sum of six r 43; the half one more of r and e. */
    private void gaps() {
        String words = "gap(a, b): of one shape: the sum of square(a - b) / 2. Terms: the cells; 1";
        with(words, of(2, 3), of(2, 3));
        is(Ask.two(x, Ask.GAP, a, b), of(), 6, 44, 35, 225);
        slopes(wider(times(S, of(20, 17, 15)), 1), wider(times(S, of(20, 17, 15)), 1));
        with(words, of(), of());
        is(Ask.two(x, Ask.GAP, b, a), of(), 1, 41, 35, 225);
        slopes(wider(times(S, of(20, 17, 15)), 1), wider(times(S, of(20, 17, 15)), 1));
    }
}
