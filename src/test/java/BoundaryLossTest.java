/** Boundaries of the loss: what may be one, where it is FULL, and what has a slope. */
final class BoundaryLossTest {
    /** A past that ends in a tensor for the loss; a slope's range grows with its number. */
    private interface Growing {
        void play(MeasuredTensors x, int size);
    }

    private static final int NONE = MeasuredTensors.NONE;

    private final Due due = new Due("Boundaries of the loss");

    public static void main(String[] args) {
        BoundaryLossTest test = new BoundaryLossTest();
        test.noSides();
        test.noSuchTensor();
        test.limbs();
        test.limbsOfSlopes();
        test.rangeByTheOther();
        test.rangeBySpread();
        test.rangeByUses();
        test.rangeByDivision();
        test.places();
        test.divisor();
        test.multipleOfParams();
        test.whatHasNoSlope();
        test.lossOfStepAndStop();
        test.withoutALoss();
        test.due.end();
    }

    /** "IllegalArgumentException: it has sides." */
    private void noSides() {
        Edge edge = new Edge(due, "IllegalArgumentException: it has sides", x -> {
            Ask.param(x);
            Ask.param(x, 1);
            Ask.param(x, 2, 1);
            Ask.param(x, 1, 1, 1);
            Ask.param(x, 1, 1, 1, 1);
            Ask.one(x, Ask.SQUARE, 0);
            x.loss(5);
        });
        MeasuredTensors x = edge.begun();
        due.is("limbs with the loss 0", x.loss(0), 3 + 3 + 3 + 2 * 3 + 3 + 3 + 3);
        due.is("all(3)", 0, x.all(3));
        for (int t = 1; t <= 4; t++) {
            int k = t;
            edge.isIllegal("loss(" + k + ")", y -> y.loss(k));
        }
    }

    /** "IndexOutOfBoundsException: there is no such tensor"; the loss before stays. */
    private void noSuchTensor() {
        Edge edge = new Edge(due, "there is no such tensor; what throws changes nothing", x -> {
            Ask.param(x);
            Ask.index(x, 1);
            Ask.one(x, Ask.SQUARE, 0);
            x.loss(1);
        });
        for (int t : new int[] {2, -1, Integer.MIN_VALUE, Integer.MAX_VALUE}) {
            edge.isOutOfBounds("loss(" + t + ")", x -> x.loss(t));
        }
        Edge empty = new Edge(due, "there is no such tensor", x -> { });
        empty.isOutOfBounds("loss(0)", x -> x.loss(0));
    }

    /** "LIMBS are above 200000: then there is no loss." 199997 with the loss 2; a number behind it has 2 or 3 more. */
    private void limbs() {
        Edge.Past most = x -> {
            Ask.input(x, 4096, 16);
            Ask.input(x, 1128);
            x.number(0, 1);
        };
        String words = "or LIMBS are above 200000: then there is no loss";
        MeasuredTensors fine = new Edge(due, words, most).begun();
        due.is("limbs", 199997, fine.loss(2));
        fine.number(1, 1);
        due.is("limbs", 200000, fine.loss(2));
        due.holds(fine, 4, 0, 65536 + 1128 + 2, 2);
        due.hasSlope(fine, 2, 1, 1, 0, 1);
        Edge.Past beyond = x -> {
            most.play(x);
            x.number(0, 1);
            x.number(0, 1);
        };
        new Edge(due, words, beyond).losesTheLoss("200001 limbs", x -> x.loss(2), beyond);
        Edge withLoss = new Edge(due, words, x -> {
            most.play(x);
            x.loss(2);
            x.number(0, 1);
            x.number(0, 1);
        });
        withLoss.losesTheLoss("200001 limbs, behind a loss", x -> x.loss(2), beyond);
        withLoss.losesTheLoss("200002 limbs, another loss", x -> x.loss(4), beyond);
    }

    /** "and the same of its slope, if it has one": 30000 cells of 3 limbs, with slopes of 3 or 4 limbs. */
    private void limbsOfSlopes() {
        Edge.Past past = x -> {
            Ask.input(x, 3000, 10);
            x.number(0, 1);
            Ask.one(x, Ask.SUM, 0);
            x.number(Integer.MAX_VALUE, 1);
            x.pair(2, 2, 3);
            x.over(4, 1, 1);
            x.made(false, 2, 2000, 2, 0, 0);
        };
        String words = "and the same of its slope, if it has one, all together";
        MeasuredTensors x = new Edge(due, words, past).begun();
        // Of the tensors: r + e 32, 0, 47, 31, 78, 79, 32.
        int alone = 30000 * 3 + 2 + 4 + 3 + 5 + 5 + 4000 * 3;
        due.is("the loss alone has a slope", alone + 3, x.loss(1));
        due.is("slopes of r 1", alone + 3 + 30000 * 3, x.loss(2));
        due.is("r + e of a slope is 32 still", alone + 3 + 3 + 4 + 30000 * 3, x.loss(4));
        Edge edge = new Edge(due, words, y -> {
            past.play(y);
            y.loss(4);
        });
        edge.losesTheLoss("slopes of r 33", y -> y.loss(5), past);
    }

    private void slopeRange(String loss, Growing past, int size, int ofTensor) {
        String words = "FULL when some slope's measure is beyond its bounds: then there is no loss";
        MeasuredTensors x = new Edge(due, words, y -> past.play(y, size)).begun();
        int last = Ask.last(x);
        due.is(loss + " is not FULL", 1, x.loss(last) > 0 ? 1 : 0);
        due.is("r of the slope, " + loss, 4000, x.told(ofTensor, 10));
        due.is("all(3)", last, x.all(3));
        Edge.Past wider = y -> past.play(y, size + 1);
        Edge beyond = new Edge(due, words, wider);
        MeasuredTensors made = beyond.begun();
        due.is("the last tensor is one for a loss, " + loss, 0, made.told(Ask.last(made), 0));
        beyond.losesTheLoss(loss + ", one wider", y -> y.loss(Ask.last(y)), wider);
        Edge behind = new Edge(due, words, y -> {
            wider.play(y);
            y.loss(0);
        });
        behind.losesTheLoss(loss + ", one wider, behind a loss", y -> y.loss(Ask.last(y)), wider);
    }

    /** Tensor 0 is a number with r 0, tensor 1 a param of this shape, the last one of its shape has the range told. */
    private static int wide(MeasuredTensors x, int range, int... shape) {
        x.number(0, 1);
        Ask.param(x, shape);
        return Wide.range(x, 1, range);
    }

    /** "in a * b, a @ b, conv joined with the other argument's as a * b joins r". */
    private void rangeByTheOther() {
        slopeRange("a * b", (x, r) -> x.pair(2, 0, wide(x, r)), 3999, 0);
        slopeRange("b * a", (x, r) -> x.pair(2, wide(x, r), 0), 3999, 0);
        slopeRange("a @ b", (x, r) -> {
            int row = wide(x, r, 1);
            x.pair(3, Ask.reshape(x, 0, 1), row);
        }, 3999, 0);
        slopeRange("conv", (x, r) -> {
            int image = wide(x, r, 1, 1, 1);
            int filter = Ask.reshape(x, 0, 1, 1, 1, 1);
            Ask.reshape(x, Ask.two(x, Ask.CONV, image, filter, 1));
        }, 3999, 0);
    }

    /** "and r + L(cells of the result that a cell of the argument goes into)". */
    private void rangeBySpread() {
        slopeRange("sum of a number times [2]", (x, r) -> {
            int row = wide(x, r, 2);
            Ask.one(x, Ask.SUM, x.pair(2, 0, row));
        }, 3998, 0);
        slopeRange("hinge of a number times [16]", (x, r) -> {
            int row = wide(x, r, 16);
            Ask.two(x, Ask.HINGE, x.pair(2, 0, row), Ask.index(x, 16));
        }, 3991, 0);
        slopeRange("sum of 16 picks of a number times [1, 1]", (x, r) -> {
            int row = wide(x, r, 1, 1);
            Ask.one(x, Ask.SUM, Ask.two(x, Ask.PICK, x.pair(2, 0, row), Ask.index(x, 1, 16)));
        }, 3995, 0);
    }

    /** "Of several uses (a * a is two): .. greater r + L(how many uses)". */
    private void rangeByUses() {
        slopeRange("a * b + a", (x, r) -> x.pair(0, x.pair(2, 0, wide(x, r)), 0), 3998, 0);
        slopeRange("a * b + (a + a)", (x, r) -> {
            int product = x.pair(2, 0, wide(x, r));
            x.pair(0, x.pair(0, 0, 0), product);
        }, 3997, 0);
    }

    /** "in a / f, mean, pool as there". */
    private void rangeByDivision() {
        slopeRange("a * b over 1 / 7", (x, r) -> x.over(x.pair(2, 0, wide(x, r)), 1, 7), 3996, 0);
        slopeRange("the mean of a * b", (x, r) -> Ask.one(x, Ask.MEAN, x.pair(2, 0, wide(x, r))), 3998, 0);
        slopeRange("the pool of a * b", (x, r) -> {
            int image = wide(x, r, 1, 1, 1);
            Ask.reshape(x, Ask.one(x, Ask.POOL, x.pair(2, 0, image), 1));
        }, 3998, 0);
    }

    /** A slope's e is at most the loss's own, so that 4000 is reached and no loss is FULL by it. */
    private void places() {
        due.about("some slope's measure is beyond its bounds: e at most 4000");
        MeasuredTensors x = new MeasuredTensors();
        x.number(0, 1);
        Ask.param(x);
        int wide = Wide.places(x, 1, 4000);
        int product = x.pair(2, 0, wide);
        due.is("loss(0 * wide) is not FULL", 1, x.loss(product) > 0 ? 1 : 0);
        due.is("e of the slope", 4000, x.told(0, 11));
        x.number(1, 2);
        due.is("a product with e 4001", MeasuredTensors.FULL, x.pair(2, product, Ask.last(x)));
    }

    /** A slope's q divides the loss's own: 2^62 - 1 is reached, and no loss is FULL by it. */
    private void divisor() {
        due.about("some slope's measure is beyond its bounds: q below 2^62");
        MeasuredTensors x = new MeasuredTensors();
        Ask.param(x);
        int least = Wide.divided(x, 0, Wide.MOST);
        due.is("loss is not FULL", 1, x.loss(least) > 0 ? 1 : 0);
        due.hasSlope(x, 0, 1, 1 + 3, 0, Wide.GREATEST_DIVISOR);
        int product = x.pair(2, x.number(0, 1), least);
        due.is("loss of a product is not FULL", 1, x.loss(product) > 0 ? 1 : 0);
        due.hasSlope(x, product - 1, 1, 1 + 15 + 3, 0, Wide.GREATEST_DIVISOR);
    }

    /** "or the least common multiple of q of all params' slopes": it divides the loss's q too, and may be 2^62 - 1. */
    private void multipleOfParams() {
        due.about("the least common multiple of q of all params' slopes, is beyond its bounds");
        MeasuredTensors x = new MeasuredTensors();
        Ask.param(x);
        Ask.param(x);
        int first = x.over(0, Wide.MOST[0], 1);
        int second = Wide.divided(x, 1, Wide.MOST[1], Wide.MOST[2]);
        int sum = x.pair(0, first, second);
        due.is("loss is not FULL", 1, x.loss(sum) > 0 ? 1 : 0);
        due.is("q of the one's slope", Wide.MOST[0], x.divisor(0, true));
        due.is("q of the other's slope", (long) Wide.MOST[1] * Wide.MOST[2], x.divisor(1, true));
        due.is("q of the loss", Wide.GREATEST_DIVISOR, x.divisor(sum, false));
        due.is("all(3)", sum, x.all(3));
        MeasuredTensors beyond = new MeasuredTensors();
        Ask.param(beyond);
        Ask.param(beyond);
        int left = beyond.over(0, Wide.BEYOND[0], 1);
        int right = Wide.divided(beyond, 1, Wide.BEYOND[1], Wide.BEYOND[2]);
        due.is("no loss depends on both", MeasuredTensors.FULL, beyond.pair(0, left, right));
    }

    /** "step, stop and indices have no slope, nor what is used only in such, or not at all." */
    private void whatHasNoSlope() {
        due.about("step, stop and indices have no slope, nor what is used only in such, or not at all");
        MeasuredTensors x = new MeasuredTensors();
        int unused = Ask.param(x);
        int stepped = Ask.param(x);
        int stopped = Ask.param(x);
        int both = Ask.param(x);
        int step = Ask.one(x, Ask.STEP, stepped);
        int stop = Ask.one(x, Ask.STOP, x.turned(stopped));
        int stepOfBoth = Ask.one(x, Ask.STEP, both);
        int sum = x.pair(0, x.pair(2, step, both), x.pair(2, stop, stepOfBoth));
        int loss = x.pair(0, sum, Ask.one(x, Ask.STOP, sum));
        int behind = x.pair(2, loss, unused);
        x.loss(loss);
        for (int t : new int[] {unused, stepped, stopped, stop - 1, step, stop, stepOfBoth, loss - 1, behind}) {
            due.hasNoSlope(x, t);
        }
        due.hasSlope(x, both, 1, 1 + 1, 0, 1);
        due.hasSlope(x, sum, 1, 1, 0, 1);
        due.hasSlope(x, loss, 1, 1, 0, 1);
        x.loss(behind);
        due.hasSlope(x, unused, 1, 1 + x.told(loss, 7), 0, 1);
        due.hasSlope(x, loss, 1, 1 + 15, 0, 1);
        x.loss(unused);
        due.hasSlope(x, unused, 1, 1, 0, 1);
        due.hasNoSlope(x, loss);
        due.hasNoSlope(x, both);
    }

    /** "the loss itself has one for being it": a step or a stop too, but nothing goes through it. */
    private void lossOfStepAndStop() {
        due.about("the loss itself has one for being it");
        for (int what = Ask.STEP; what <= Ask.STOP; what++) {
            MeasuredTensors x = new MeasuredTensors();
            Ask.param(x);
            int t = Ask.one(x, what, 0);
            due.is("limbs", 3 + 3 + 3, x.loss(t));
            due.hasSlope(x, t, 1, 1, 0, 1);
            due.hasNoSlope(x, 0);
            due.is("all(3)", t, x.all(3));
        }
    }

    /** "0 without a loss", "NONE without one"; "the loss (3, NONE without one)". */
    private void withoutALoss() {
        due.about("0 without a loss; NONE without one");
        MeasuredTensors x = new MeasuredTensors();
        due.is("all(3)", NONE, x.all(3));
        Ask.param(x);
        x.pair(2, 0, 0);
        due.hasNoSlope(x, 0);
        due.hasNoSlope(x, 1);
        due.is("all(3)", NONE, x.all(3));
        x.loss(1);
        due.hasSlope(x, 1, 1, 1, 0, 1);
        due.hasSlope(x, 0, 2, 1 + 15 + 1, 0, 1);
        due.is("all(3)", 1, x.all(3));
        x.begin(0);
        due.is("all(3)", NONE, x.all(3));
        Ask.param(x);
        due.hasNoSlope(x, 0);
    }
}
