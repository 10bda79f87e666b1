/**
 * "Where several exceptions fit, the one named first is thrown; what throws changes nothing": each exception of the
 * face on both sides of where it begins, and what stands behind it.
 */
final class BoundaryThrowTest {
    private static final int LEAST = Integer.MIN_VALUE, MOST = Integer.MAX_VALUE;
    private static final int TENSORS = 6, INDICES = 2;
    private static final int[] MISSING = {TENSORS, -1, TENSORS + 1, -2, LEAST, MOST};

    private final Due due = new Due("Boundaries of exceptions");

    public static void main(String[] args) {
        BoundaryThrowTest test = new BoundaryThrowTest();
        test.pair();
        test.turnedAndOver();
        test.reshape();
        test.index();
        test.callWhat();
        test.callCounts();
        test.callNumbers();
        test.callArguments();
        test.callOrder();
        test.callKinds();
        test.told();
        test.divisor();
        test.all();
        test.emptyObject();
        test.due.end();
    }

    /** Tensors 0 [2, 2], 1 [2], 2 [], 3 = 0 @ 1, 4 its sum, 5 = 4 * 2 the loss; indices 0 [] and 1 [2]; p is 9. */
    private static void past(MeasuredTensors x) {
        x.begin(9);
        Ask.param(x, 2, 2);
        Ask.param(x, 2);
        x.number(5, 6);
        Ask.index(x, 2);
        Ask.index(x, 2, 2);
        x.pair(2, Ask.one(x, Ask.SUM, x.pair(3, 0, 1)), 2);
        x.loss(Ask.last(x));
    }

    private Edge edge(String words) {
        return new Edge(due, words, BoundaryThrowTest::past);
    }

    /** "IndexOutOfBoundsException: there is no such tensor; IllegalArgumentException: another how." */
    private void pair() {
        Edge edge = edge("pair: there is no such tensor; another how");
        for (int how = 0; how <= 2; how++) {
            int h = how;
            edge.makes("pair(" + h + ", the last two)", x -> x.pair(h, TENSORS - 1, TENSORS - 2));
        }
        edge.makes("pair(3, ..)", x -> x.pair(3, 1, 1));
        for (int how : new int[] {-1, 4, LEAST, MOST}) {
            edge.isIllegal("pair(" + how + ", 1, 1)", x -> x.pair(how, 1, 1));
            for (int t : MISSING) {
                edge.isOutOfBounds("pair(" + how + ", " + t + ", 1)", x -> x.pair(how, t, 1));
                edge.isOutOfBounds("pair(" + how + ", 1, " + t + ")", x -> x.pair(how, 1, t));
            }
        }
        for (int t : MISSING) {
            for (int how = 0; how <= 3; how++) {
                int h = how;
                edge.isOutOfBounds("pair(" + h + ", " + t + ", 1)", x -> x.pair(h, t, 1));
                edge.isOutOfBounds("pair(" + h + ", 1, " + t + ")", x -> x.pair(h, 1, t));
                edge.isOutOfBounds("pair(" + h + ", " + t + ", " + t + ")", x -> x.pair(h, t, t));
            }
        }
    }

    /** "IndexOutOfBoundsException: there is no such tensor", before over's "u or l is below 1". */
    private void turnedAndOver() {
        Edge edge = edge("turned, over: there is no such tensor");
        edge.makes("turned(0)", x -> x.turned(0), 2, 2);
        edge.makes("turned(the last)", x -> x.turned(TENSORS - 1));
        edge.makes("over(the last, 2, 3)", x -> x.over(TENSORS - 1, 2, 3));
        for (int t : MISSING) {
            edge.isOutOfBounds("turned(" + t + ")", x -> x.turned(t));
            edge.isOutOfBounds("over(" + t + ", 2, 3)", x -> x.over(t, 2, 3));
            edge.isOutOfBounds("over(" + t + ", 0, 1)", x -> x.over(t, 0, 1));
            edge.isOutOfBounds("over(" + t + ", 2, 2)", x -> x.over(t, 2, 2));
        }
    }

    /** "IndexOutOfBoundsException: there is no such tensor; IllegalArgumentException: as for made." */
    private void reshape() {
        Edge edge = edge("reshape: there is no such tensor; as for made");
        edge.makes("reshape(the last, [1])", x -> Ask.reshape(x, TENSORS - 1, 1), 1);
        for (int t : MISSING) {
            edge.isOutOfBounds("reshape(" + t + ", [])", x -> Ask.reshape(x, t));
            edge.isOutOfBounds("reshape(" + t + ", 5 sides)", x -> x.reshape(t, 5, 1, 1, 1, 1));
            edge.isOutOfBounds("reshape(" + t + ", a side of 0)", x -> x.reshape(t, 1, 0, 1, 1, 1));
        }
        edge.isIllegal("reshape to 5 sides", x -> x.reshape(2, 5, 1, 1, 1, 1));
        edge.isIllegal("reshape to other cells and a side of 0", x -> x.reshape(2, 2, 7, 0, 1, 1));
        edge.isIllegal("reshape to a side of 4097", x -> x.reshape(2, 1, 4097, 1, 1, 1));
    }

    /** "IllegalArgumentException: as for made, or below is not 1 .. 65536; UnsupportedOperationException: ..". */
    private void index() {
        Edge edge = edge("index: as for made, or below is not 1 .. 65536; it would have more than 4096 cells");
        edge.isUnsupported("too many cells", x -> x.index(2, 4096, 2, 0, 0, 1));
        edge.isIllegal("too many cells, below 0", x -> x.index(2, 4096, 2, 0, 0, 0));
        edge.isIllegal("too many cells, below 65537", x -> x.index(2, 4096, 2, 0, 0, 65537));
        edge.isIllegal("too many cells, a side of 0", x -> x.index(3, 4096, 2, 0, 0, 1));
        edge.isIllegal("5 sides", x -> x.index(5, 4096, 2, 1, 1, 1));
    }

    /** "IllegalArgumentException: another what": 11 is none, nor are -1 and 19. */
    private void callWhat() {
        Edge edge = edge("call: another what");
        for (int what : new int[] {-1, 11, 19, 20, LEAST, MOST}) {
            for (int n = 0; n <= 2; n++) {
                int count = n;
                edge.isIllegal("call(" + what + ", " + n + ", ..)", x -> x.call(what, count, 1, 1, 0, 0, 0));
            }
        }
        for (int what = Ask.RELU; what <= Ask.STOP; what++) {
            int w = what;
            edge.makes("call " + w, x -> Ask.one(x, w, 1), 2);
        }
        edge.makes("call 18", x -> Ask.two(x, Ask.GAP, 1, 1));
    }

    /** "n or m is not 0 .. 2"; within, counts that do not fit are WRONG. */
    private void callCounts() {
        Edge edge = edge("call: n or m is not 0 .. 2");
        for (int what : Ask.CALLS) {
            for (int count : new int[] {-1, 3, LEAST, MOST}) {
                edge.isIllegal("call(" + what + ") of " + count, x -> x.call(what, count, 1, 1, 0, 0, 0));
                edge.isIllegal("call(" + what + ") of 1; " + count, x -> x.call(what, 1, 1, 1, count, 0, 0));
                edge.isIllegal("call(" + what + ") of 2; " + count, x -> x.call(what, 2, 1, 1, count, 0, 0));
            }
            for (int n = 0; n <= 2; n++) {
                for (int m = 0; m <= 2; m++) {
                    isWrongUnlessItFits(edge, what, n, m);
                }
            }
        }
    }

    private void isWrongUnlessItFits(Edge edge, int what, int n, int m) {
        boolean ofTwo = what == Ask.CONV || what == Ask.JOIN || what >= Ask.PICK;
        int numbers = what == Ask.PART ? 2 : what >= Ask.SUM && what <= Ask.TOPS || what == Ask.PAD ? 1 : 0;
        boolean fits = m == numbers || m == 0 && (what == Ask.SUM || what == Ask.MEAN);
        if (n != (ofTwo ? 2 : 1) || !fits) {
            edge.isWrong("call(" + what + ") of " + n + "; " + m, x -> x.call(what, n, 1, 1, m, 0, 1));
            edge.isWrong("call(" + what + ") of " + n + "; " + m, x -> x.call(what, n, 0, -2, m, 0, 1));
        }
    }

    /** "one of its m whole numbers is below 0": those behind the first m are not looked at. */
    private void callNumbers() {
        Edge edge = edge("call: one of its m whole numbers is below 0");
        edge.makes("sum(a; 0)", x -> x.call(Ask.SUM, 1, 1, 0, 1, 0, -1));
        edge.makes("sum(a)", x -> x.call(Ask.SUM, 1, 1, 0, 0, -1, -1));
        edge.makes("part(a; 0, 1)", x -> x.call(Ask.PART, 1, 1, 0, 2, 0, 1), 1);
        for (int what : Ask.CALLS) {
            for (int below : new int[] {-1, LEAST}) {
                for (int n = 0; n <= 2; n++) {
                    int k = n;
                    String call = "call(" + what + ") of " + k + "; ";
                    edge.isIllegal(call + below, x -> x.call(what, k, 1, 1, 1, below, 0));
                    edge.isIllegal(call + below + ", 1", x -> x.call(what, k, 1, 1, 2, below, 1));
                    edge.isIllegal(call + "0, " + below, x -> x.call(what, k, 1, 1, 2, 0, below));
                }
            }
        }
    }

    /** "IndexOutOfBoundsException: one of its n arguments is not there": a tensor, or an index i as -1 - i. */
    private void callArguments() {
        Edge edge = edge("call: one of its n arguments is not there");
        edge.makes("relu(the last)", x -> x.call(Ask.RELU, 1, TENSORS - 1, TENSORS, 0, 0, 0));
        edge.makes("hinge(1, the first index)", x -> Ask.two(x, Ask.HINGE, 1, -1));
        edge.makes("pick(0, the last index)", x -> Ask.two(x, Ask.PICK, 0, -INDICES), 2, 2);
        edge.isWrong("relu(the last index)", x -> Ask.one(x, Ask.RELU, -INDICES));
        for (int gone : new int[] {TENSORS, -1 - INDICES, LEAST, MOST}) {
            for (int what : Ask.CALLS) {
                edge.isOutOfBounds("call(" + what + ", 1, " + gone + ")", x -> x.call(what, 1, gone, 1, 0, 0, 0));
                edge.isOutOfBounds("call(" + what + ", 2, " + gone + ", 1)", x -> x.call(what, 2, gone, 1, 0, 0, 0));
                edge.isOutOfBounds("call(" + what + ", 2, 1, " + gone + ")", x -> x.call(what, 2, 1, gone, 1, 1, 0));
                edge.isWrong("call(" + what + ", 0, " + gone + ")", x -> x.call(what, 0, gone, gone, 0, 0, 0));
            }
        }
    }

    /** "Where several exceptions fit, the one named first is thrown": here IllegalArgumentException. */
    private void callOrder() {
        Edge edge = edge("Where several exceptions fit, the one named first is thrown");
        edge.isIllegal("another what, of no tensor", x -> x.call(11, 1, 99, 99, 0, 0, 0));
        edge.isIllegal("n is 3, of no tensor", x -> x.call(0, 3, 99, 99, 0, 0, 0));
        edge.isIllegal("n is -1", x -> x.call(0, -1, 99, 99, 0, 0, 0));
        edge.isIllegal("m is 3, of no tensor", x -> x.call(0, 1, 99, 99, 3, 0, 0));
        edge.isIllegal("m is -1, of no tensor", x -> x.call(0, 1, 99, 99, -1, 0, 0));
        edge.isIllegal("a number below 0, of no tensor", x -> x.call(5, 1, 99, 99, 1, -1, 0));
        edge.isOutOfBounds("of no tensor, and WRONG", x -> x.call(5, 2, 1, 99, 2, 9, 9));
        edge.isOutOfBounds("of no index, and WRONG", x -> x.call(5, 2, -99, 1, 2, 9, 9));
    }

    /** "WRONG: .. how many arguments .. there are, or what they are": an index for a tensor, and the other way. */
    private void callKinds() {
        Edge edge = edge("WRONG: how many arguments there are, or what they are");
        for (int what : Ask.CALLS) {
            for (int m = 0; m <= 2; m++) {
                int k = m;
                edge.isWrong("call(" + what + ") of an index", x -> x.call(what, 1, -1, 1, k, 0, 1));
                edge.isWrong("call(" + what + ") of an index first", x -> x.call(what, 2, -2, 1, k, 0, 1));
                edge.isWrong("call(" + what + ") of two indices", x -> x.call(what, 2, -1, -1, k, 0, 1));
            }
        }
        for (int what : new int[] {Ask.JOIN, Ask.GAP}) {
            edge.isWrong("call(" + what + ") with an index", x -> Ask.two(x, what, 1, -2));
        }
        edge.isWrong("conv with an index", x -> Ask.two(x, Ask.CONV, 0, -2, 1));
        edge.isWrong("pick with a tensor", x -> Ask.two(x, Ask.PICK, 0, 1));
        edge.isWrong("hinge with a tensor", x -> Ask.two(x, Ask.HINGE, 1, 2));
    }

    /** "IndexOutOfBoundsException: there is no such tensor; IllegalArgumentException: another what", of told. */
    private void told() {
        Edge edge = edge("told: there is no such tensor; another what");
        int[] last = {0, 1, 1, 1, 1, 1, 1, 31 + 1 + 3, 18 + 1, 1, 1, 0};
        int[] first = {2, 2, 2, 1, 1, 4, 1, 15, 9, 1, 1 + 3 + 15, 1 + 9};
        for (int what = 0; what <= 11; what++) {
            int w = what;
            edge.answers("told(the last, " + w + ")", last[w], x -> x.told(TENSORS - 1, w));
            edge.answers("told(0, " + w + ")", first[w], x -> x.told(0, w));
        }
        for (int what : new int[] {-1, 12, LEAST, MOST}) {
            edge.isIllegal("told(0, " + what + ")", x -> x.told(0, what));
            for (int t : MISSING) {
                edge.isOutOfBounds("told(" + t + ", " + what + ")", x -> x.told(t, what));
            }
        }
        for (int t : MISSING) {
            edge.isOutOfBounds("told(" + t + ", 0)", x -> x.told(t, 0));
            edge.isOutOfBounds("told(" + t + ", 11)", x -> x.told(t, 11));
        }
    }

    /** "The divisor of a tensor, or of its slope (NONE without one).": "there is no such tensor". */
    private void divisor() {
        Edge edge = edge("divisor: there is no such tensor");
        edge.answers("divisor(the last, false)", 3, x -> x.divisor(TENSORS - 1, false));
        edge.answers("divisor(the last, true)", 1, x -> x.divisor(TENSORS - 1, true));
        edge.answers("divisor(0, false)", 1, x -> x.divisor(0, false));
        edge.answers("divisor(0, true)", 3, x -> x.divisor(0, true));
        for (int t : MISSING) {
            edge.isOutOfBounds("divisor(" + t + ", false)", x -> x.divisor(t, false));
            edge.isOutOfBounds("divisor(" + t + ", true)", x -> x.divisor(t, true));
        }
    }

    /** "(3, NONE without one); NONE for another what." */
    private void all() {
        Edge edge = edge("all: NONE for another what");
        int[] due = {TENSORS, INDICES, 4 + 2 + 1 + 4 + 2 + 1, TENSORS - 1};
        for (int what = 0; what <= 3; what++) {
            int w = what;
            edge.answers("all(" + w + ")", due[w], x -> x.all(w));
        }
        for (int what : new int[] {-1, 4, LEAST, MOST}) {
            edge.answers("all(" + what + ")", MeasuredTensors.NONE, x -> x.all(what));
        }
    }

    /** "No tensors, no indices, no loss; p is 0.": nothing is there for any call. */
    private void emptyObject() {
        Edge edge = new Edge(due, "No tensors, no indices, no loss; p is 0", x -> { });
        for (int t : new int[] {0, -1, 1}) {
            edge.isOutOfBounds("pair", x -> x.pair(0, t, t));
            edge.isOutOfBounds("turned", x -> x.turned(t));
            edge.isOutOfBounds("over", x -> x.over(t, 1, 1));
            edge.isOutOfBounds("call", x -> Ask.one(x, Ask.RELU, t));
            edge.isOutOfBounds("reshape", x -> Ask.reshape(x, t));
            edge.isOutOfBounds("loss", x -> x.loss(t));
            edge.isOutOfBounds("told", x -> x.told(t, 0));
            edge.isOutOfBounds("divisor", x -> x.divisor(t, false));
        }
        MeasuredTensors x = edge.makes("the first param", y -> Ask.param(y));
        due.hasMeasure(x, 0, 1, 15, 0, 1);
        for (int what = 0; what <= 2; what++) {
            int w = what;
            edge.answers("all(" + w + ")", 0, y -> y.all(w));
        }
        edge.answers("all(3)", MeasuredTensors.NONE, y -> y.all(3));
    }
}
