/** "WORK beyond 1000000": every call that makes a tensor, with just so much left as it needs, and with one less. */
final class BoundaryWorkTest {
    private static final Edge.Past NOTHING = x -> { };

    private final Due due = new Due("Boundaries of the work");

    public static void main(String[] args) {
        BoundaryWorkTest test = new BoundaryWorkTest();
        test.whatIsToldNothing();
        test.pairs();
        test.cellsAlone();
        test.sums();
        test.windows();
        test.moves();
        test.indices();
        test.wrongBeforeFull();
        test.indicesNeedNone();
        test.due.end();
    }

    private static Edge.Past of(int... shape) {
        return x -> Ask.param(x, shape);
    }

    private static Edge.Past of(int[] first, int[] second) {
        return x -> {
            Ask.param(x, first);
            Ask.param(x, second);
        };
    }

    private static int[] sides(int... sides) {
        return sides;
    }

    private Edge withLeft(String words, Edge.Past past, int left) {
        return new Edge(due, words, x -> {
            past.play(x);
            Wide.work(x, left);
        });
    }

    private void needs(int work, String call, Edge.Past past, Edge.Call asked, int... shape) {
        String words = "WORK beyond 1000000";
        MeasuredTensors x = withLeft(words, past, work).makes(call, asked, shape);
        due.is("work behind " + call, 1000000, x.all(2));
        withLeft(words, past, work - 1).isFull(call + ", with one less left", asked);
        withLeft(words, past, 0).isFull(call + ", with nothing left", asked);
    }

    /** "for each tensor its cells times its terms (1, if nothing is told)". */
    private void whatIsToldNothing() {
        needs(1, "number", NOTHING, x -> x.number(3, 4));
        needs(1, "an input []", NOTHING, x -> Ask.input(x));
        needs(24, "an input [2, 3, 4]", NOTHING, x -> Ask.input(x, 2, 3, 4), 2, 3, 4);
        needs(65536, "a param [4096, 16]", NOTHING, x -> Ask.param(x, 4096, 16), 4096, 16);
    }

    /** "a + b, a - b, a * b: .. Terms: 1"; "a @ b: .. Terms n". */
    private void pairs() {
        for (int how = Ask.PLUS; how <= Ask.TIMES; how++) {
            int h = how;
            needs(12, "pair(" + h + ", ..)", of(sides(3, 4), sides(4)), x -> x.pair(h, 0, 1), 3, 4);
            needs(12, "pair(" + h + ", ..), the smaller first", of(sides(3, 4), sides()), x -> x.pair(h, 1, 0), 3, 4);
        }
        needs(3 * 4, "[3, 4] @ [4]", of(sides(3, 4), sides(4)), x -> x.pair(3, 0, 1), 3);
        needs(3 * 5 * 4, "[3, 4] @ [4, 5]", of(sides(3, 4), sides(4, 5)), x -> x.pair(3, 0, 1), 3, 5);
        needs(5 * 4, "[4] @ [4, 5]", of(sides(4), sides(4, 5)), x -> x.pair(3, 0, 1), 5);
        needs(4, "[4] @ [4]", of(4), x -> x.pair(3, 0, 0));
        needs(96 * 96 * 96, "[96, 96] @ [96, 96]", of(96, 96), x -> x.pair(3, 0, 0), 96, 96);
        Edge beyond = new Edge(due, "WORK beyond 1000000", of(sides(256, 256), sides(4096, 16)));
        beyond.isFull("[256, 256] @ [256, 256], 2^24", x -> x.pair(3, 0, 0));
        Edge far = new Edge(due, "WORK beyond 1000000", of(sides(16, 4096), sides(4096, 16)));
        far.isFull("[16, 4096] @ [4096, 16], 2^20", x -> x.pair(3, 0, 1));
    }

    /** "-a. a / fraction. Terms 1", "relu(a) .. stop(a) .. Terms 1". */
    private void cellsAlone() {
        needs(12, "turned", of(3, 4), x -> x.turned(0), 3, 4);
        needs(12, "over", of(3, 4), x -> x.over(0, 2, 3), 3, 4);
        needs(12, "reshape", of(3, 4), x -> Ask.reshape(x, 0, 2, 6), 2, 6);
        for (int what = Ask.RELU; what <= Ask.STOP; what++) {
            int w = what;
            needs(12, "call " + w, of(3, 4), x -> Ask.one(x, w, 0), 3, 4);
        }
    }

    /** "sum(a), mean(a) .. Terms: how many"; "high(a; k) .. Terms 1"; "gap(a, b) .. Terms: the cells". */
    private void sums() {
        for (int what = Ask.SUM; what <= Ask.MEAN; what++) {
            int w = what;
            needs(12, "call " + w, of(3, 4), x -> Ask.one(x, w, 0));
            needs(12, "call " + w + " along side 0", of(3, 4), x -> Ask.one(x, w, 0, 0), 4);
            needs(12, "call " + w + " along side 1", of(3, 4), x -> Ask.one(x, w, 0, 1), 3);
            needs(1, "call " + w + " of no sides", of(), x -> Ask.one(x, w, 0));
            needs(65536, "call " + w + " of 65536", of(4096, 16), x -> Ask.one(x, w, 0));
        }
        needs(4, "high along side 0", of(3, 4), x -> Ask.one(x, Ask.HIGH, 0, 0), 4);
        needs(3, "high along side 1", of(3, 4), x -> Ask.one(x, Ask.HIGH, 0, 1), 3);
        needs(12, "gap", of(3, 4), x -> Ask.two(x, Ask.GAP, 0, 0));
    }

    /** "conv(x, f; s) .. Terms c p q"; "pool(x; p) .. Terms p p (tops: 1)". */
    private void windows() {
        needs(5 * 3 * 2 * (2 * 2 * 3), "conv", of(sides(2, 4, 4), sides(5, 2, 2, 3)),
                x -> Ask.two(x, Ask.CONV, 0, 1, 1), 5, 3, 2);
        needs(5 * 2 * 1 * (2 * 2 * 3), "conv by 2", of(sides(2, 4, 4), sides(5, 2, 2, 3)),
                x -> Ask.two(x, Ask.CONV, 0, 1, 2), 5, 2, 1);
        needs(2 * 3 * 2 * 4, "pool", of(2, 6, 4), x -> Ask.one(x, Ask.POOL, 0, 2), 2, 3, 2);
        needs(2 * 3 * 2, "tops", of(2, 6, 4), x -> Ask.one(x, Ask.TOPS, 0, 2), 2, 3, 2);
        Edge far = new Edge(due, "WORK beyond 1000000", of(sides(64, 31, 31), sides(64, 64, 4, 4)));
        far.isFull("conv to [64, 28, 28] with 1024 terms each", x -> Ask.two(x, Ask.CONV, 0, 1, 1));
    }

    /** "turn(a) .. part(a; i, j) .. join(a, b) .. pad(x; p) .. Terms 1". */
    private void moves() {
        needs(12, "turn", of(3, 4), x -> Ask.one(x, Ask.TURN, 0), 4, 3);
        needs(8, "part", of(3, 4), x -> Ask.one(x, Ask.PART, 0, 1, 3), 2, 4);
        needs(20, "join", of(sides(3, 4), sides(2, 4)), x -> Ask.two(x, Ask.JOIN, 0, 1), 5, 4);
        needs(2 * 5 * 6, "pad", of(2, 3, 4), x -> Ask.one(x, Ask.PAD, 0, 1), 2, 5, 6);
    }

    /** "pick(t, i) .. Terms 1"; "hinge(a, i) .. Terms n". */
    private void indices() {
        Edge.Past rows = x -> {
            Ask.param(x, 3, 4);
            Ask.index(x, 3, 5);
        };
        needs(20, "pick", rows, x -> Ask.two(x, Ask.PICK, 0, -1), 5, 4);
        Edge.Past row = x -> {
            Ask.param(x, 7);
            Ask.index(x, 7);
        };
        needs(7, "hinge", row, x -> Ask.two(x, Ask.HINGE, 0, -1));
    }

    /** "(WRONG before FULL.)": with nothing left of the work. */
    private void wrongBeforeFull() {
        Edge edge = withLeft("WRONG before FULL", x -> {
            Ask.param(x, 3, 4);
            Ask.param(x, 3);
            Ask.param(x, 2, 3, 4);
            Ask.index(x, 4);
            Ask.index(x, 4, 2);
        }, 0);
        for (int how = Ask.PLUS; how <= Ask.MATRIX; how++) {
            int h = how;
            edge.isWrong("pair(" + h + ", [3, 4], [3])", x -> x.pair(h, 0, 1));
        }
        edge.isWrong("reshape to other cells", x -> Ask.reshape(x, 0, 3, 5));
        for (int what : Ask.CALLS) {
            edge.isWrong("call " + what + " of nothing", x -> x.call(what, 0, 0, 0, 0, 0, 0));
            edge.isWrong("call " + what + " of an index", x -> Ask.one(x, what, -1));
            edge.isWrong("call " + what + " of two indices", x -> Ask.two(x, what, -1, -2));
            edge.isWrong("call " + what + " with two whole numbers too great", x -> Ask.one(x, what, 0, 99, 99));
        }
        edge.isWrong("sum along side 2", x -> Ask.one(x, Ask.SUM, 0, 2));
        edge.isWrong("pool by 2", x -> Ask.one(x, Ask.POOL, 2, 2));
        edge.isWrong("turn of [3]", x -> Ask.one(x, Ask.TURN, 1));
        edge.isWrong("part of nothing", x -> Ask.one(x, Ask.PART, 0, 1, 1));
        edge.isWrong("pad by 17", x -> Ask.one(x, Ask.PAD, 2, 17));
        edge.isWrong("join of other sides", x -> Ask.two(x, Ask.JOIN, 0, 1));
        edge.isWrong("pick below 4 of 3", x -> Ask.two(x, Ask.PICK, 0, -2));
        edge.isWrong("hinge below 4 of 3", x -> Ask.two(x, Ask.HINGE, 1, -1));
        edge.isWrong("gap of other sides", x -> Ask.two(x, Ask.GAP, 0, 1));
        edge.isIllegal("number(2, 2)", x -> x.number(2, 2));
        edge.isIllegal("made of 5 sides", x -> x.made(false, 5, 1, 1, 1, 1));
        edge.isOutOfBounds("turned(99)", x -> x.turned(99));
    }

    /** "WORK: for each tensor": none for an index, and a beginning takes all away. */
    private void indicesNeedNone() {
        Edge edge = withLeft("WORK: for each tensor", NOTHING, 0);
        MeasuredTensors x = edge.begun();
        due.is("index [4096]", 0, x.index(1, 4096, 0, 0, 0, 65536));
        due.is("work", 1000000, x.all(2));
        x.begin(0);
        due.is("work behind begin", 0, x.all(2));
        due.is("made behind begin", 0, Ask.input(x, 4096, 16));
    }
}
