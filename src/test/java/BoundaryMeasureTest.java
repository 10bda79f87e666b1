/** "its bounds: r and e at most 4000, q below 2^62": every call that can reach them, on both sides. */
final class BoundaryMeasureTest {
    /** A past that grows with a number, so that a call behind it just keeps to a bound, or goes one beyond. */
    private interface Growing {
        void play(MeasuredTensors x, int size);
    }

    private static final int MOST = Integer.MAX_VALUE;
    private static final long GREATEST = Wide.GREATEST_DIVISOR;

    private final Due due = new Due("Boundaries of measures");

    public static void main(String[] args) {
        BoundaryMeasureTest test = new BoundaryMeasureTest();
        test.rangeOfOne();
        test.rangeOfTwo();
        test.placesOfOne();
        test.placesOfTwo();
        test.divisorOfSums();
        test.divisorOfProducts();
        test.divisorOfDivisions();
        test.divisorOfSquares();
        test.asTheirArgument();
        test.due.end();
    }

    /** Tensor 0 is a param of this shape with r 15, the last one of its shape has the range told; an index is []. */
    private static Growing ranged(int... shape) {
        return (x, r) -> {
            Ask.param(x, shape);
            Ask.index(x, 1);
            Wide.range(x, 0, r);
        };
    }

    /** Tensor 0 is a param of this shape, tensor 1 its half, with e 1; the last one has the places told. */
    private static Growing placed(int... shape) {
        return (x, e) -> {
            Ask.param(x, shape);
            x.over(0, 2, 1);
            Ask.index(x, 1);
            Wide.places(x, 0, e);
        };
    }

    private Edge edge(String words, Growing past, int size) {
        return new Edge(due, words, x -> past.play(x, size));
    }

    /** Behind a range of so much the call's result has range r, behind one more it is FULL. */
    private void range(String call, Growing past, int size, int r, Edge.Call asked, int... shape) {
        String words = "its bounds: r at most 4000";
        MeasuredTensors x = edge(words, past, size).makes(call, asked, shape);
        due.is("r of " + call, r, x.told(Ask.last(x), 7));
        edge(words, past, size + 1).isFull(call + ", one wider", asked);
    }

    private void places(String call, Growing past, int size, int e, Edge.Call asked, int... shape) {
        String words = "its bounds: e at most 4000";
        MeasuredTensors x = edge(words, past, size).makes(call, asked, shape);
        due.is("e of " + call, e, x.told(Ask.last(x), 8));
        edge(words, past, size + 1).isFull(call + ", one place more", asked);
    }

    /** "a / f .. as a * (l / u)"; "square: as a * a"; "sum: r + L(terms)"; "mean, pool: as sum, then / terms". */
    private void rangeOfOne() {
        range("over 1", ranged(3), 3999, 4000, x -> x.over(Ask.last(x), 1, 1), 3);
        range("over 1 / 2", ranged(3), 3998, 4000, x -> x.over(Ask.last(x), 1, 2), 3);
        range("over 1 / (2^31 - 1)", ranged(3), 3969, 4000, x -> x.over(Ask.last(x), 1, MOST), 3);
        range("over 3 / 4", ranged(3), 3997, 4000, x -> x.over(Ask.last(x), 3, 4), 3);
        range("square", ranged(3), 2000, 4000, x -> Ask.one(x, Ask.SQUARE, Ask.last(x)), 3);
        range("sum of 3", ranged(3), 3998, 4000, x -> Ask.one(x, Ask.SUM, Ask.last(x)));
        range("sum of 2 along side 1", ranged(3, 2), 3999, 4000, x -> Ask.one(x, Ask.SUM, Ask.last(x), 1), 3);
        range("sum of 4096", ranged(4096), 3988, 4000, x -> Ask.one(x, Ask.SUM, Ask.last(x), 0));
        range("mean of 3", ranged(3), 3997, 4000, x -> Ask.one(x, Ask.MEAN, Ask.last(x)));
        range("mean of 1", ranged(), 3999, 4000, x -> Ask.one(x, Ask.MEAN, Ask.last(x)));
        range("mean of 5 along side 0", ranged(5, 2), 3996, 4000, x -> Ask.one(x, Ask.MEAN, Ask.last(x), 0), 2);
        range("pool by 2", ranged(1, 4, 2), 3997, 4000, x -> Ask.one(x, Ask.POOL, Ask.last(x), 2), 1, 2, 1);
        range("pool by 1", ranged(1, 4, 2), 3999, 4000, x -> Ask.one(x, Ask.POOL, Ask.last(x), 1), 1, 4, 2);
        range("hinge of 1", ranged(1), 3997, 4000, x -> Ask.two(x, Ask.HINGE, Ask.last(x), -1));
        range("hinge of 4", ranged(4), 3995, 4000, x -> Ask.two(x, Ask.HINGE, Ask.last(x), -1));
        range("hinge of 5", ranged(5), 3994, 4000, x -> Ask.two(x, Ask.HINGE, Ask.last(x), -1));
    }

    /** "a + b, a - b, join: greater r + 1"; "a * b, a @ b, conv: sum of r, and of L(terms)"; "gap: as a - b". */
    private void rangeOfTwo() {
        for (int how = Ask.PLUS; how <= Ask.MINUS; how++) {
            int h = how;
            range("pair(" + h + ", a, b)", ranged(3), 3999, 4000, x -> x.pair(h, Ask.last(x), 0), 3);
            range("pair(" + h + ", b, a)", ranged(3), 3999, 4000, x -> x.pair(h, 0, Ask.last(x)), 3);
            range("pair(" + h + ", a, a)", ranged(3), 3999, 4000, x -> x.pair(h, Ask.last(x), Ask.last(x)), 3);
        }
        range("a * b", ranged(3), 3985, 4000, x -> x.pair(2, Ask.last(x), 0), 3);
        range("b * a", ranged(3), 3985, 4000, x -> x.pair(2, 0, Ask.last(x)), 3);
        range("a * a", ranged(3), 2000, 4000, x -> x.pair(2, Ask.last(x), Ask.last(x)), 3);
        range("[1] @ [1]", ranged(1), 3985, 4000, x -> x.pair(3, 0, Ask.last(x)));
        range("[2, 2] @ [2, 2]", ranged(2, 2), 3984, 4000, x -> x.pair(3, Ask.last(x), 0), 2, 2);
        range("[3] @ [3]", ranged(3), 3983, 4000, x -> x.pair(3, Ask.last(x), 0));
        Growing images = (x, r) -> {
            Ask.param(x, 1, 2, 2);
            Ask.param(x, 1, 1, 2, 2);
            Wide.range(x, 0, r);
        };
        range("conv of 4, of a wide x", images, 3983, 4000, x -> Ask.two(x, Ask.CONV, Ask.last(x), 1, 1), 1, 1, 1);
        Growing filters = (x, r) -> {
            Ask.param(x, 1, 1, 1, 3);
            Ask.param(x, 1, 1, 3);
            Wide.range(x, 0, r);
        };
        range("conv of 3, of a wide f", filters, 3983, 4000, x -> Ask.two(x, Ask.CONV, 1, Ask.last(x), 1), 1, 1, 1);
        range("gap of 1", ranged(), 1998, 3999, x -> Ask.two(x, Ask.GAP, Ask.last(x), 0));
        range("gap of 2", ranged(2), 1998, 4000, x -> Ask.two(x, Ask.GAP, 0, Ask.last(x)));
        range("gap of 4 with itself", ranged(4), 1997, 3999, x -> Ask.two(x, Ask.GAP, Ask.last(x), Ask.last(x)));
    }

    /** "e as often as 2 divides" the divisor: of a / f, mean and pool; "square: as a * a". */
    private void placesOfOne() {
        places("over 2", placed(3), 3999, 4000, x -> x.over(Ask.last(x), 2, 1), 3);
        places("over 2^30", placed(3), 3970, 4000, x -> x.over(Ask.last(x), 1 << 30, 1), 3);
        places("over 12 / 7", placed(3), 3998, 4000, x -> x.over(Ask.last(x), 12, 7), 3);
        places("square", placed(3), 2000, 4000, x -> Ask.one(x, Ask.SQUARE, Ask.last(x)), 3);
        places("mean of 2", placed(2), 3999, 4000, x -> Ask.one(x, Ask.MEAN, Ask.last(x)));
        places("mean of 12 along side 1", placed(2, 12), 3998, 4000, x -> Ask.one(x, Ask.MEAN, Ask.last(x), 1), 2);
        places("pool by 2", placed(1, 2, 4), 3998, 4000, x -> Ask.one(x, Ask.POOL, Ask.last(x), 2), 1, 1, 2);
        places("gap with itself", placed(3), 1999, 3999, x -> Ask.two(x, Ask.GAP, Ask.last(x), Ask.last(x)));
        Edge most = edge("its bounds: e at most 4000", placed(3), 4000);
        isOfPlaces(most.makes("over 3 / 2", x -> x.over(Ask.last(x), 3, 2), 3));
        isOfPlaces(most.makes("sum", x -> Ask.one(x, Ask.SUM, Ask.last(x))));
        isOfPlaces(most.makes("mean of 3", x -> Ask.one(x, Ask.MEAN, Ask.last(x))));
        isOfPlaces(most.makes("hinge", x -> Ask.two(x, Ask.HINGE, Ask.last(x), -1)));
    }

    /** "a + b, a - b, join: .. greater e"; "a * b, a @ b, conv: .. sum of e". */
    private void placesOfTwo() {
        places("a * b", placed(3), 3999, 4000, x -> x.pair(2, Ask.last(x), 1), 3);
        places("b * a", placed(3), 3999, 4000, x -> x.pair(2, 1, Ask.last(x)), 3);
        places("a @ b", placed(3), 3999, 4000, x -> x.pair(3, Ask.last(x), 1));
        places("gap of two", placed(3), 1999, 3999, x -> Ask.two(x, Ask.GAP, 1, Ask.last(x)));
        Growing images = (x, e) -> {
            Ask.param(x, 1, 2, 2);
            x.over(Ask.param(x, 1, 1, 2, 2), 2, 1);
            Wide.places(x, 0, e);
        };
        places("conv", images, 3999, 4000, x -> Ask.two(x, Ask.CONV, Ask.last(x), 2, 1), 1, 1, 1);
        Edge most = edge("its bounds: e at most 4000", placed(3), 4000);
        isOfPlaces(most.makes("a + b", x -> x.pair(0, Ask.last(x), 1), 3));
        isOfPlaces(most.makes("b - a", x -> x.pair(1, 1, Ask.last(x)), 3));
        isOfPlaces(most.makes("a + a", x -> x.pair(0, Ask.last(x), Ask.last(x)), 3));
        isOfPlaces(most.makes("join", x -> Ask.two(x, Ask.JOIN, Ask.last(x), 1), 6));
        isOfPlaces(most.makes("a * b, e of b is 0", x -> x.pair(2, Ask.last(x), 0), 3));
    }

    private void isOfPlaces(MeasuredTensors x) {
        due.is("e", 4000, x.told(Ask.last(x), 8));
    }

    /** Params 0 and 1 of these shapes; the last but one is 0 by the first factor, the last one is 1 by the others. */
    private Edge divided(int[] factors, int[] first, int[] second) {
        return new Edge(due, "its bounds: q below 2^62", x -> {
            Ask.param(x, first);
            Ask.param(x, second);
            int half = x.over(1, factors[1], 1);
            int left = x.over(0, factors[0], 1);
            due.is("the last but one", left, half + 1);
            x.over(half, factors[2], 1);
        });
    }

    private void isOfDivisor(long q, MeasuredTensors x) {
        due.is("q", q, x.divisor(Ask.last(x), false));
    }

    private static int left(MeasuredTensors x) {
        return Ask.last(x) - 1;
    }

    /** "a + b, a - b, join: .. least common multiple of q". */
    private void divisorOfSums() {
        int[] row = {3};
        Edge fine = divided(Wide.MOST, row, row);
        Edge beyond = divided(Wide.BEYOND, row, row);
        for (int how = Ask.PLUS; how <= Ask.MINUS; how++) {
            int h = how;
            isOfDivisor(GREATEST, fine.makes("pair " + h, x -> x.pair(h, left(x), Ask.last(x)), 3));
            beyond.isFull("pair " + h, x -> x.pair(h, left(x), Ask.last(x)));
            beyond.isFull("pair " + h + ", the other first", x -> x.pair(h, Ask.last(x), left(x)));
        }
        isOfDivisor(GREATEST, fine.makes("join", x -> Ask.two(x, Ask.JOIN, left(x), Ask.last(x)), 6));
        beyond.isFull("join", x -> Ask.two(x, Ask.JOIN, left(x), Ask.last(x)));
        Edge greatest = new Edge(due, "its bounds: q below 2^62", x -> Wide.divided(x, Ask.param(x, 3), Wide.MOST));
        isOfDivisor(GREATEST, greatest.makes("a + a", x -> x.pair(0, Ask.last(x), Ask.last(x)), 3));
        isOfDivisor(GREATEST, greatest.makes("a - b, q of b in that of a", x -> x.pair(1, Ask.last(x), 1), 3));
        isOfDivisor(GREATEST, greatest.makes("sum", x -> Ask.one(x, Ask.SUM, Ask.last(x))));
    }

    /** "a * b, a @ b, conv: .. product of q". */
    private void divisorOfProducts() {
        int[] row = {3};
        Edge fine = divided(Wide.MOST, row, row);
        Edge beyond = divided(Wide.BEYOND, row, row);
        isOfDivisor(GREATEST, fine.makes("a * b", x -> x.pair(2, left(x), Ask.last(x)), 3));
        beyond.isFull("a * b", x -> x.pair(2, left(x), Ask.last(x)));
        isOfDivisor(GREATEST, fine.makes("a @ b", x -> x.pair(3, left(x), Ask.last(x))));
        beyond.isFull("a @ b", x -> x.pair(3, left(x), Ask.last(x)));
        int[] image = {1, 2, 2};
        int[] filter = {1, 1, 2, 2};
        Edge.Call conv = x -> Ask.two(x, Ask.CONV, left(x), Ask.last(x), 1);
        isOfDivisor(GREATEST, divided(Wide.MOST, image, filter).makes("conv", conv, 1, 1, 1));
        divided(Wide.BEYOND, image, filter).isFull("conv", conv);
        Edge far = new Edge(due, "its bounds: q below 2^62", x -> Wide.divided(x, Ask.param(x, 3), Wide.MOST));
        far.isFull("a * a, q near 2^124", x -> x.pair(2, Ask.last(x), Ask.last(x)));
        far.isFull("square, q near 2^124", x -> Ask.one(x, Ask.SQUARE, Ask.last(x)));
        far.isFull("gap, q near 2^124", x -> Ask.two(x, Ask.GAP, Ask.last(x), 0));
    }

    private Edge dividedBy(int[] shape, int... factors) {
        return new Edge(due, "its bounds: q below 2^62", x -> Wide.divided(x, Ask.param(x, shape), factors));
    }

    /** "a / f .. as a * (l / u)"; "mean, pool: .. / terms (as a division)". 9 divides 2^62 - 13 and 2^62 + 113. */
    private void divisorOfDivisions() {
        int[] row = {3};
        isOfDivisor(GREATEST, dividedBy(row, MOST, 715827883).makes("over 3", x -> x.over(Ask.last(x), 3, 1), 3));
        isOfDivisor(GREATEST, dividedBy(row, MOST, 715827883).makes("over 24", x -> x.over(Ask.last(x), 24, 1), 3));
        isOfDivisor(GREATEST, dividedBy(row, 715827883, 3).makes("over most", x -> x.over(Ask.last(x), MOST, 1), 3));
        isOfDivisor(GREATEST, dividedBy(row, Wide.MOST).makes("over 8 / 3", x -> x.over(Ask.last(x), 8, 3), 3));
        dividedBy(row, 2147418113, 429509837).isFull("over 5", x -> x.over(Ask.last(x), 5, 1));
        dividedBy(row, 429509837, 5).isFull("over 2147418113", x -> x.over(Ask.last(x), 2147418113, 1));
        dividedBy(row, Wide.MOST).isFull("over 3, once more", x -> x.over(Ask.last(x), 3, 1));
        dividedBy(row, Wide.MOST).isFull("over 2^31 - 1, once more", x -> x.over(Ask.last(x), MOST, 1));
        Edge.Call mean = x -> Ask.one(x, Ask.MEAN, Ask.last(x));
        isOfDivisor(GREATEST, dividedBy(row, MOST, 715827883).makes("mean of 3", mean));
        dividedBy(new int[] {5}, 2147418113, 429509837).isFull("mean of 5", mean);
        Edge.Call pool = x -> Ask.one(x, Ask.POOL, Ask.last(x), 3);
        int[] image = {1, 3, 3};
        isOfDivisor((1L << 62) - 13,
                dividedBy(image, 9 * 17 * 23, 319279, 456065899).makes("pool by 3", pool, 1, 1, 1));
        dividedBy(image, 13 * 67 * 167, 11923, 295458883).isFull("pool by 3", pool);
    }

    /** "square: as a * a"; "gap: as a - b, its square": (2^31 - 1)^2 is below 2^62, (2^31 + 1)^2 is not. */
    private void divisorOfSquares() {
        int[] row = {3};
        long most = (long) MOST * MOST;
        Edge.Call square = x -> Ask.one(x, Ask.SQUARE, Ask.last(x));
        isOfDivisor(most, dividedBy(row, MOST).makes("square", square, 3));
        dividedBy(row, 715827883, 3).isFull("square", square);
        Edge.Call gap = x -> Ask.two(x, Ask.GAP, 0, Ask.last(x));
        isOfDivisor(most, dividedBy(row, MOST).makes("gap", gap));
        dividedBy(row, 715827883, 3).isFull("gap", gap);
        // 3 * 715827883 is 2^31 + 1 as a least common multiple too, 3 * 715827881 is 2^31 - 5.
        Edge multiples = divided(new int[] {715827883, 3, 1}, row, row);
        multiples.isFull("gap of q 715827883 and 3", x -> Ask.two(x, Ask.GAP, left(x), Ask.last(x)));
        Edge smaller = divided(new int[] {715827881, 3, 1}, row, row);
        isOfDivisor(2147483643L * 2147483643L,
                smaller.makes("gap of q 715827881 and 3", x -> Ask.two(x, Ask.GAP, left(x), Ask.last(x))));
    }

    /** "All others as their argument"; "step: 1, 0, 1": at their bounds nothing goes beyond. */
    private void asTheirArgument() {
        Growing[] pasts = {ranged(2, 3), placed(2, 3), (x, q) -> Wide.divided(x, Ask.param(x, 2, 3), Wide.MOST)};
        for (Growing past : pasts) {
            Edge edge = new Edge(due, "All others as their argument", x -> {
                Ask.index(x, 2, 1);
                past.play(x, 4000);
            });
            isAsItsArgument(edge.makes("-a", x -> x.turned(Ask.last(x)), 2, 3));
            isAsItsArgument(edge.makes("relu", x -> Ask.one(x, Ask.RELU, Ask.last(x)), 2, 3));
            isAsItsArgument(edge.makes("abs", x -> Ask.one(x, Ask.ABS, Ask.last(x)), 2, 3));
            isAsItsArgument(edge.makes("stop", x -> Ask.one(x, Ask.STOP, Ask.last(x)), 2, 3));
            isAsItsArgument(edge.makes("high", x -> Ask.one(x, Ask.HIGH, Ask.last(x), 0), 3));
            isAsItsArgument(edge.makes("reshape", x -> Ask.reshape(x, Ask.last(x), 3, 2), 3, 2));
            isAsItsArgument(edge.makes("turn", x -> Ask.one(x, Ask.TURN, Ask.last(x)), 3, 2));
            isAsItsArgument(edge.makes("part", x -> Ask.one(x, Ask.PART, Ask.last(x), 0, 1), 1, 3));
            isAsItsArgument(edge.makes("join", x -> Ask.two(x, Ask.JOIN, Ask.last(x), Ask.last(x)), 4, 3));
            isAsItsArgument(edge.makes("pick", x -> Ask.two(x, Ask.PICK, Ask.last(x), -1), 1, 3));
            MeasuredTensors x = edge.makes("step", y -> Ask.one(y, Ask.STEP, Ask.last(y)), 2, 3);
            due.hasMeasure(x, Ask.last(x), 1, 1, 0, 1);
        }
        Edge images = edge("All others as their argument", ranged(1, 2, 2), 4000);
        isAsItsArgument(images.makes("tops", x -> Ask.one(x, Ask.TOPS, Ask.last(x), 2), 1, 1, 1));
        isAsItsArgument(images.makes("pad", x -> Ask.one(x, Ask.PAD, Ask.last(x), 1), 1, 4, 4));
        Edge alone = edge("sum: r + L(terms)", ranged(), 4000);
        isAsItsArgument(alone.makes("sum of 1", x -> Ask.one(x, Ask.SUM, Ask.last(x))));
    }

    private void isAsItsArgument(MeasuredTensors x) {
        int t = Ask.last(x);
        due.hasMeasure(x, t, 1, x.told(t - 1, 7), x.told(t - 1, 8), x.divisor(t - 1, false));
    }
}
