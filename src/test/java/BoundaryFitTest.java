import java.util.Arrays;

/** Boundaries of what goes together: shapes, arguments and whole numbers, beyond which a call is WRONG. */
final class BoundaryFitTest {
    private static final int MOST = Integer.MAX_VALUE;

    private final Due due = new Due("Boundaries of what goes together");

    public static void main(String[] args) {
        BoundaryFitTest test = new BoundaryFitTest();
        test.lastSides();
        test.matrixProducts();
        test.alongASide();
        test.convSides();
        test.convStrides();
        test.convWindows();
        test.squares();
        test.turn();
        test.part();
        test.join();
        test.pad();
        test.pick();
        test.hinge();
        test.gap();
        test.due.end();
    }

    /** Tensors of these shapes, numbered 0, 1, ..; a loss and an index, so that a refused call could change them. */
    private Edge edge(String words, int[]... shapes) {
        return new Edge(due, words, x -> {
            x.begin(3);
            for (int[] shape : shapes) {
                Ask.param(x, shape);
            }
            Ask.index(x, 2, 2);
            x.loss(Ask.one(x, Ask.SUM, 0));
        });
    }

    private static int[] of(int... sides) {
        return sides;
    }

    /** "of one shape; or that of the one is the last sides of the other's (perhaps none)". */
    private void lastSides() {
        int[][] shapes = {of(), of(4), of(3, 4), of(2, 3, 4), of(5, 2, 3, 4)};
        int[][] wrong = {of(1), of(3), of(2), of(5), of(4, 3), of(4, 4), of(3, 3), of(3, 5), of(1, 4), of(3, 1),
            of(2, 3), of(2, 3, 5), of(2, 4, 4), of(1, 3, 4), of(4, 2, 3, 4), of(5, 2, 3, 3), of(5, 2, 4, 4),
            of(5, 1, 3, 4)};
        int[] large = {5, 2, 3, 4};
        for (int how = 0; how <= 2; how++) {
            int h = how;
            for (int[] small : shapes) {
                Edge edge = edge("the last sides of the other's (perhaps none)", large, small);
                edge.makes("large first", x -> x.pair(h, 0, 1), large);
                edge.makes("small first", x -> x.pair(h, 1, 0), large);
                edge.makes("of one shape", x -> x.pair(h, 1, 1), small);
            }
            for (int[] other : wrong) {
                Edge edge = edge("of one shape; or the last sides of the other's", large, other);
                edge.isWrong("[5, 2, 3, 4] with " + Arrays.toString(other), x -> x.pair(h, 0, 1));
                edge.isWrong(Arrays.toString(other) + " with [5, 2, 3, 4]", x -> x.pair(h, 1, 0));
            }
        }
        Edge ones = edge("the last sides of the other's (perhaps none)", of(), of(1), of(1, 1), of(2));
        ones.makes("[] + [1]", x -> x.pair(0, 0, 1), 1);
        ones.makes("[1] - [1, 1]", x -> x.pair(1, 1, 2), 1, 1);
        ones.isWrong("[1] * [2]", x -> x.pair(2, 1, 3));
        ones.isWrong("[1, 1] + [2]", x -> x.pair(0, 2, 3));
    }

    /** "[m, n] @ [n] is [m]; [m, n] @ [n, p] is [m, p]; [n] @ [n, p] is [p]; [n] @ [n] is []: sums over n". */
    private void matrixProducts() {
        Edge edge = edge("[m, n] @ [n] is [m]; [m, n] @ [n, p] is [m, p]; [n] @ [n, p] is [p]; [n] @ [n] is []",
                of(2, 4), of(4), of(4, 3), of(3), of(5), of(3, 2), of(5, 2), of(), of(4, 1, 1), of(2, 2, 4), of(1));
        edge.makes("[2, 4] @ [4]", x -> x.pair(3, 0, 1), 2);
        edge.makes("[2, 4] @ [4, 3]", x -> x.pair(3, 0, 2), 2, 3);
        edge.makes("[4] @ [4, 3]", x -> x.pair(3, 1, 2), 3);
        edge.makes("[4] @ [4]", x -> x.pair(3, 1, 1));
        edge.makes("[1] @ [1]", x -> x.pair(3, 10, 10));
        int[][] wrong = {{0, 3}, {0, 4}, {0, 5}, {0, 6}, {0, 0}, {1, 3}, {1, 4}, {1, 5}, {1, 6}, {1, 0}, {0, 7}, {7, 1},
            {7, 7}, {7, 2}, {1, 7}, {0, 8}, {1, 8}, {9, 1}, {9, 2}, {8, 10}, {9, 8}, {10, 7}, {7, 10}};
        for (int[] k : wrong) {
            edge.isWrong("tensor " + k[0] + " @ tensor " + k[1], x -> x.pair(3, k[0], k[1]));
        }
    }

    /** "sum(a), mean(a): of all cells, no sides"; sum, mean and high "along side k, which goes". */
    private void alongASide() {
        int[][] shapes = {of(), of(2), of(2, 3), of(2, 3, 4), of(2, 3, 4, 5)};
        Edge edge = edge("along side k, which goes", shapes);
        for (int a = 0; a <= 4; a++) {
            int t = a;
            edge.makes("sum(a)", x -> Ask.one(x, Ask.SUM, t));
            edge.makes("mean(a)", x -> Ask.one(x, Ask.MEAN, t));
            edge.isWrong("high(a)", x -> Ask.one(x, Ask.HIGH, t));
            for (int what = Ask.SUM; what <= Ask.HIGH; what++) {
                int w = what;
                for (int side = 0; side < t; side++) {
                    int k = side;
                    edge.makes("call " + w + " along side " + k + " of " + t, x -> Ask.one(x, w, t, k),
                            without(shapes[t], k));
                }
                for (int side : new int[] {t, t + 1, 4, 5, MOST}) {
                    if (side >= t) {
                        edge.isWrong("call " + w + " along side " + side + " of " + t, x -> Ask.one(x, w, t, side));
                    }
                }
                edge.isIllegal("call " + w + " along side -1", x -> Ask.one(x, w, t, -1));
            }
        }
    }

    private static int[] without(int[] shape, int side) {
        int[] left = new int[shape.length - 1];
        for (int k = 0; k < left.length; k++) {
            left[k] = shape[k < side ? k : k + 1];
        }
        return left;
    }

    /** "x [c, h, w], f [o, c, p, q], p at most h, q at most w". */
    private void convSides() {
        Edge edge = edge("x [c, h, w], f [o, c, p, q], p at most h, q at most w",
                of(2, 5, 4), of(3, 2, 5, 4), of(3, 2, 6, 4), of(3, 2, 5, 5), of(3, 1, 5, 4), of(3, 3, 5, 4),
                of(3, 2, 1, 1), of(2, 5, 4, 1), of(2, 5), of(2, 5, 4), of(3, 2, 4, 5));
        edge.makes("p = h, q = w", x -> Ask.two(x, Ask.CONV, 0, 1, 1), 3, 1, 1);
        edge.makes("p = 1, q = 1", x -> Ask.two(x, Ask.CONV, 0, 6, 1), 3, 5, 4);
        edge.isWrong("p = h + 1", x -> Ask.two(x, Ask.CONV, 0, 2, 1));
        edge.isWrong("q = w + 1", x -> Ask.two(x, Ask.CONV, 0, 3, 1));
        edge.isWrong("p at most h, q at most w, not the other way round", x -> Ask.two(x, Ask.CONV, 0, 10, 1));
        edge.isWrong("f of fewer channels", x -> Ask.two(x, Ask.CONV, 0, 4, 1));
        edge.isWrong("f of more channels", x -> Ask.two(x, Ask.CONV, 0, 5, 1));
        edge.isWrong("x of four sides", x -> Ask.two(x, Ask.CONV, 7, 1, 1));
        edge.isWrong("x of two sides", x -> Ask.two(x, Ask.CONV, 8, 1, 1));
        edge.isWrong("f of three sides", x -> Ask.two(x, Ask.CONV, 0, 9, 1));
        edge.isWrong("f first", x -> Ask.two(x, Ask.CONV, 1, 0, 1));
    }

    /** "s 1 .. 16". */
    private void convStrides() {
        Edge edge = edge("conv(x, f; s): s 1 .. 16", of(1, 40, 33), of(1, 1, 1, 1));
        edge.makes("conv by 1", x -> Ask.two(x, Ask.CONV, 0, 1, 1), 1, 40, 33);
        edge.makes("conv by 16", x -> Ask.two(x, Ask.CONV, 0, 1, 16), 1, 3, 3);
        edge.isWrong("conv by 0", x -> Ask.two(x, Ask.CONV, 0, 1, 0));
        edge.isWrong("conv by 17", x -> Ask.two(x, Ask.CONV, 0, 1, 17));
        edge.isWrong("conv by the most", x -> Ask.two(x, Ask.CONV, 0, 1, MOST));
        edge.isIllegal("conv by -1", x -> Ask.two(x, Ask.CONV, 0, 1, -1));
        edge.isWrong("conv without s", x -> Ask.two(x, Ask.CONV, 0, 1));
    }

    /** "[o, (h - p) / s + 1, (w - q) / s + 1] (rounded down)". */
    private void convWindows() {
        Edge edge = edge("(h - p) / s + 1, (w - q) / s + 1 (rounded down)", of(1, 8, 9), of(2, 1, 2, 2));
        edge.makes("6 / 2 and 7 / 2", x -> Ask.two(x, Ask.CONV, 0, 1, 2), 2, 4, 4);
        edge.makes("6 / 3 and 7 / 3", x -> Ask.two(x, Ask.CONV, 0, 1, 3), 2, 3, 3);
        edge.makes("6 / 4 and 7 / 4", x -> Ask.two(x, Ask.CONV, 0, 1, 4), 2, 2, 2);
        edge.makes("6 / 6 and 7 / 6", x -> Ask.two(x, Ask.CONV, 0, 1, 6), 2, 2, 2);
        edge.makes("6 / 7 and 7 / 7", x -> Ask.two(x, Ask.CONV, 0, 1, 7), 2, 1, 2);
        edge.makes("6 / 8 and 7 / 8", x -> Ask.two(x, Ask.CONV, 0, 1, 8), 2, 1, 1);
    }

    /** "pool(x; p): x [c, h, w], p divides h and w: .. [c, h / p, w / p]; tops(x; p)". */
    private void squares() {
        Edge edge = edge("p divides h and w",
                of(5, 6, 12), of(6, 12), of(1, 5, 6, 12), of(2, 6, 8), of(2, 8, 6), of(2, 3, 3), of());
        for (int what = Ask.POOL; what <= Ask.TOPS; what++) {
            int w = what;
            edge.makes("by 1", x -> Ask.one(x, w, 0, 1), 5, 6, 12);
            edge.makes("by 6", x -> Ask.one(x, w, 0, 6), 5, 1, 2);
            edge.makes("by h = w", x -> Ask.one(x, w, 5, 3), 2, 1, 1);
            for (int p : new int[] {0, 4, 5, 7, 12, 65536, MOST}) {
                edge.isWrong("by " + p, x -> Ask.one(x, w, 0, p));
            }
            edge.isWrong("3 divides h alone", x -> Ask.one(x, w, 3, 3));
            edge.isWrong("3 divides w alone", x -> Ask.one(x, w, 4, 3));
            edge.isWrong("8 divides w alone", x -> Ask.one(x, w, 3, 8));
            edge.isWrong("twice h", x -> Ask.one(x, w, 5, 6));
            edge.isWrong("of two sides", x -> Ask.one(x, w, 1, 1));
            edge.isWrong("of four sides", x -> Ask.one(x, w, 2, 1));
            edge.isWrong("of no sides", x -> Ask.one(x, w, 6, 1));
            edge.isWrong("without p", x -> Ask.one(x, w, 0));
            edge.isIllegal("by -1", x -> Ask.one(x, w, 0, -1));
        }
    }

    /** "turn(a): [m, n] to [n, m]". */
    private void turn() {
        Edge edge = edge("turn(a): [m, n] to [n, m]", of(2, 3), of(2), of(2, 3, 1), of(), of(1, 1), of(1, 2, 3, 1));
        edge.makes("[2, 3]", x -> Ask.one(x, Ask.TURN, 0), 3, 2);
        edge.makes("[1, 1]", x -> Ask.one(x, Ask.TURN, 4), 1, 1);
        for (int t : new int[] {1, 2, 3, 5}) {
            edge.isWrong("tensor " + t, x -> Ask.one(x, Ask.TURN, t));
        }
    }

    /** "of the first side those from i to before j (i less than j, j at most the side)". */
    private void part() {
        Edge edge = edge("i less than j, j at most the side", of(5, 3), of(), of(1), of(2, 9));
        int[][] fine = {{0, 1}, {0, 5}, {4, 5}, {0, 4}, {1, 5}, {2, 3}};
        for (int[] k : fine) {
            edge.makes("part(a; " + k[0] + ", " + k[1] + ")", x -> Ask.one(x, Ask.PART, 0, k[0], k[1]),
                    k[1] - k[0], 3);
        }
        int[][] wrong = {{0, 0}, {1, 1}, {1, 0}, {4, 4}, {5, 5}, {5, 4}, {0, 6}, {4, 6}, {5, 6}, {6, 7}, {0, MOST},
            {MOST, MOST}, {MOST, 0}, {MOST, 1}};
        for (int[] k : wrong) {
            edge.isWrong("part(a; " + k[0] + ", " + k[1] + ")", x -> Ask.one(x, Ask.PART, 0, k[0], k[1]));
        }
        edge.makes("all of [1]", x -> Ask.one(x, Ask.PART, 2, 0, 1), 1);
        edge.isWrong("of no sides", x -> Ask.one(x, Ask.PART, 1, 0, 1));
        edge.isWrong("beyond the first side, within the second", x -> Ask.one(x, Ask.PART, 3, 0, 3));
        edge.isWrong("without j", x -> Ask.one(x, Ask.PART, 0, 0));
        edge.isIllegal("from -1", x -> Ask.one(x, Ask.PART, 0, -1, 1));
        edge.isIllegal("to before -1", x -> Ask.one(x, Ask.PART, 0, 0, -1));
    }

    /** "join(a, b): one behind the other along the first side, other sides equal". */
    private void join() {
        Edge edge = edge("one behind the other along the first side, other sides equal",
                of(2, 3), of(4, 3), of(2, 4), of(2), of(7), of(), of(2, 3, 1), of(4, 1, 2, 3), of(5, 1, 2, 3),
                of(4, 1, 2, 4), of(4, 1, 3, 3), of(4, 2, 2, 3), of(1), of(2, 2));
        edge.makes("[2, 3], [4, 3]", x -> Ask.two(x, Ask.JOIN, 0, 1), 6, 3);
        edge.makes("[2], [7]", x -> Ask.two(x, Ask.JOIN, 3, 4), 9);
        edge.makes("[1], [1]", x -> Ask.two(x, Ask.JOIN, 12, 12), 2);
        edge.makes("of four sides", x -> Ask.two(x, Ask.JOIN, 7, 8), 9, 1, 2, 3);
        int[][] wrong = {{0, 2}, {2, 0}, {0, 13}, {0, 3}, {3, 0}, {0, 6}, {6, 0}, {5, 5}, {5, 12}, {12, 5}, {7, 9},
            {7, 10}, {7, 11}, {11, 7}};
        for (int[] k : wrong) {
            edge.isWrong("tensors " + k[0] + ", " + k[1], x -> Ask.two(x, Ask.JOIN, k[0], k[1]));
        }
    }

    /** "pad(x; p): x [c, h, w], p 1 .. 16 zeros on each of the four edges". */
    private void pad() {
        Edge edge = edge("p 1 .. 16 zeros on each of the four edges", of(2, 3, 4), of(3, 4), of(1, 2, 3, 4), of());
        edge.makes("by 1", x -> Ask.one(x, Ask.PAD, 0, 1), 2, 5, 6);
        edge.makes("by 16", x -> Ask.one(x, Ask.PAD, 0, 16), 2, 35, 36);
        for (int p : new int[] {0, 17, MOST, 1 << 30}) {
            edge.isWrong("by " + p, x -> Ask.one(x, Ask.PAD, 0, p));
        }
        edge.isIllegal("by -1", x -> Ask.one(x, Ask.PAD, 0, -1));
        edge.isWrong("of two sides", x -> Ask.one(x, Ask.PAD, 1, 1));
        edge.isWrong("of four sides", x -> Ask.one(x, Ask.PAD, 2, 1));
        edge.isWrong("of no sides", x -> Ask.one(x, Ask.PAD, 3, 1));
        edge.isWrong("without p", x -> Ask.one(x, Ask.PAD, 0));
    }

    /** As edge, with indices [], [2], [4096] and [1, 2], numbered -1 .. -4 in a call, all below so much. */
    private Edge withIndices(String words, int below, int[]... shapes) {
        return new Edge(due, words, x -> {
            x.begin(3);
            for (int[] shape : shapes) {
                Ask.param(x, shape);
            }
            Ask.index(x, below);
            Ask.index(x, below, 2);
            Ask.index(x, below, 4096);
            Ask.index(x, below, 1, 2);
            x.loss(Ask.one(x, Ask.SUM, 0));
        });
    }

    /** "pick(t, i): t [n, d], i an index [m] below at most n: [m, d]". */
    private void pick() {
        int[][] shapes = {of(5, 3), of(5), of(5, 3, 1), of(), of(4, 3), of(6, 3)};
        Edge edge = withIndices("i an index [m] below at most n: [m, d]", 5, shapes);
        edge.makes("below n", x -> Ask.two(x, Ask.PICK, 0, -2), 2, 3);
        edge.makes("below n - 1", x -> Ask.two(x, Ask.PICK, 5, -2), 2, 3);
        edge.makes("4096 rows", x -> Ask.two(x, Ask.PICK, 0, -3), 4096, 3);
        edge.isWrong("below n + 1", x -> Ask.two(x, Ask.PICK, 4, -2));
        edge.isWrong("by []", x -> Ask.two(x, Ask.PICK, 0, -1));
        edge.isWrong("by [1, 2]", x -> Ask.two(x, Ask.PICK, 0, -4));
        edge.isWrong("of one side", x -> Ask.two(x, Ask.PICK, 1, -2));
        edge.isWrong("of three sides", x -> Ask.two(x, Ask.PICK, 2, -2));
        edge.isWrong("of no sides", x -> Ask.two(x, Ask.PICK, 3, -2));
        edge.isWrong("by a tensor", x -> Ask.two(x, Ask.PICK, 0, 1));
        edge.isWrong("of an index", x -> Ask.two(x, Ask.PICK, -2, -2));
        edge.isWrong("the index first", x -> Ask.two(x, Ask.PICK, -2, 0));
        Edge ends = withIndices("below at most n", 4096, of(4096, 1), of(4095, 1), of(1, 1));
        ends.makes("below 4096 of 4096", x -> Ask.two(x, Ask.PICK, 0, -2), 2, 1);
        ends.isWrong("below 4096 of 4095", x -> Ask.two(x, Ask.PICK, 1, -2));
        Edge least = withIndices("below at most n", 1, of(1, 1));
        least.makes("below 1 of 1", x -> Ask.two(x, Ask.PICK, 0, -2), 2, 1);
        Edge beyond = withIndices("below at most n", 65536, of(4096, 1));
        beyond.isWrong("below 65536 of 4096", x -> Ask.two(x, Ask.PICK, 0, -2));
    }

    /** "hinge(a, i): a [n], i an index [] below at most n". */
    private void hinge() {
        Edge edge = withIndices("hinge(a, i): a [n], i an index [] below at most n", 5,
                of(5), of(4), of(6), of(), of(5, 5), of(5, 1));
        edge.makes("below n", x -> Ask.two(x, Ask.HINGE, 0, -1));
        edge.makes("below n - 1", x -> Ask.two(x, Ask.HINGE, 2, -1));
        edge.isWrong("below n + 1", x -> Ask.two(x, Ask.HINGE, 1, -1));
        edge.isWrong("by [2]", x -> Ask.two(x, Ask.HINGE, 0, -2));
        edge.isWrong("by [1, 2]", x -> Ask.two(x, Ask.HINGE, 0, -4));
        edge.isWrong("of no sides", x -> Ask.two(x, Ask.HINGE, 3, -1));
        edge.isWrong("of two sides", x -> Ask.two(x, Ask.HINGE, 4, -1));
        edge.isWrong("of [5, 1]", x -> Ask.two(x, Ask.HINGE, 5, -1));
        edge.isWrong("by a tensor", x -> Ask.two(x, Ask.HINGE, 0, 3));
        edge.isWrong("of an index", x -> Ask.two(x, Ask.HINGE, -1, -1));
        edge.isWrong("the index first", x -> Ask.two(x, Ask.HINGE, -1, 0));
        Edge least = withIndices("below at most n", 1, of(1));
        least.makes("below 1 of 1", x -> Ask.two(x, Ask.HINGE, 0, -1));
        Edge most = withIndices("below at most n", 4096, of(4096), of(4095));
        most.makes("below 4096 of 4096", x -> Ask.two(x, Ask.HINGE, 0, -1));
        most.isWrong("below 4096 of 4095", x -> Ask.two(x, Ask.HINGE, 1, -1));
    }

    /** "gap(a, b): of one shape": no last sides here. */
    private void gap() {
        Edge edge = edge("gap(a, b): of one shape",
                of(2, 3), of(2, 3), of(3), of(), of(), of(2, 4), of(1, 3), of(3, 2), of(2, 3, 1), of(1, 2, 3),
                of(2, 2, 2, 3), of(2, 2, 2, 3), of(2, 2, 2, 2), of(6));
        edge.makes("[2, 3]", x -> Ask.two(x, Ask.GAP, 0, 1));
        edge.makes("[]", x -> Ask.two(x, Ask.GAP, 3, 4));
        edge.makes("of four sides", x -> Ask.two(x, Ask.GAP, 10, 11));
        int[][] wrong = {{0, 2}, {2, 0}, {0, 3}, {3, 0}, {0, 5}, {0, 6}, {0, 7}, {0, 8}, {0, 9}, {9, 0}, {10, 12},
            {0, 13}};
        for (int[] k : wrong) {
            edge.isWrong("tensors " + k[0] + ", " + k[1], x -> Ask.two(x, Ask.GAP, k[0], k[1]));
        }
        edge.isWrong("with an index", x -> Ask.two(x, Ask.GAP, 0, -1));
    }
}
