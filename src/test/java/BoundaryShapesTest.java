import java.util.Arrays;

/** Boundaries of shapes, of how many tensors and indices there are, and of the numbers that make them. */
final class BoundaryShapesTest {
    private static final int LEAST = Integer.MIN_VALUE, MOST = Integer.MAX_VALUE;

    private final Due due = new Due("Boundaries of shapes");

    public static void main(String[] args) {
        BoundaryShapesTest test = new BoundaryShapesTest();
        test.lastCall();
        test.sidesOfMade();
        test.lengthsOfSides();
        test.cellsOfMade();
        test.numbersOfTensors();
        test.most4000Tensors();
        test.sidesOfIndices();
        test.cellsOfIndices();
        test.below();
        test.most1000Indices();
        test.begin();
        test.number();
        test.over();
        test.reshape();
        test.due.end();
    }

    /** A past with all that a refused call could change: p, two indices, tensors, a loss with slopes. */
    private static void full(MeasuredTensors x) {
        x.begin(7);
        x.made(true, 1, 3, 0, 0, 0);
        x.index(1, 2, 0, 0, 0, 3);
        x.index(0, 0, 0, 0, 0, 2);
        x.over(0, 6, 5);
        x.call(18, 2, 1, 0, 0, 0, 0);
        x.loss(2);
    }

    private Edge edge(String words) {
        return new Edge(due, words, BoundaryShapesTest::full);
    }

    private static long begin(MeasuredTensors x, int p) {
        x.begin(p);
        return 0;
    }

    /** "An object is used for at most 512 calls after it has been made": the 512th still answers. */
    private void lastCall() {
        due.about("at most 512 calls");
        MeasuredTensors x = new MeasuredTensors();
        for (int k = 0; k < 509; k++) {
            due.is("call " + (k + 1), k, x.number(k, 1));
        }
        due.is("call 510", 509, x.all(0));
        due.is("call 511, the limbs", 2 + 3 * 508 + 3, x.loss(0));
        due.is("call 512", 9, x.told(508, 7));
    }

    /** "SHAPE of 0 .. 4 SIDES"; "sides is not 0 .. 4". "the first of a, b, c, d": those behind may be anything. */
    private void sidesOfMade() {
        Edge edge = edge("SHAPE of 0 .. 4 SIDES");
        for (boolean isParam : new boolean[] {false, true}) {
            edge.makes("made, no sides", x -> x.made(isParam, 0, LEAST, 0, 4097, MOST));
            edge.makes("made, 1 side", x -> x.made(isParam, 1, 2, 0, -1, LEAST), 2);
            edge.makes("made, 2 sides", x -> x.made(isParam, 2, 2, 3, 0, MOST), 2, 3);
            edge.makes("made, 3 sides", x -> x.made(isParam, 3, 2, 3, 4, 0), 2, 3, 4);
            edge.makes("made, 4 sides", x -> x.made(isParam, 4, 2, 3, 4, 5), 2, 3, 4, 5);
            for (int sides : new int[] {-1, 5, LEAST, MOST}) {
                edge.isIllegal("made, " + sides + " sides", x -> x.made(isParam, sides, 1, 1, 1, 1));
            }
        }
    }

    /** "each 1 .. 4096"; "or one of those is not 1 .. 4096". */
    private void lengthsOfSides() {
        Edge edge = edge("SIDES, each 1 .. 4096");
        for (int place = 0; place < 4; place++) {
            int sides = place + 1;
            for (int length : new int[] {1, 4096}) {
                int[] shape = onesBut(place, length);
                int[] told = Arrays.copyOf(shape, sides);
                edge.makes("made, side " + sides + " of " + length,
                        x -> x.made(false, sides, shape[0], shape[1], shape[2], shape[3]), told);
            }
            for (int length : new int[] {0, 4097, -1, LEAST, MOST}) {
                int[] shape = onesBut(place, length);
                for (int count = sides; count <= 4; count++) {
                    int k = count;
                    edge.isIllegal("made, " + k + " sides, one of " + length,
                            x -> x.made(false, k, shape[0], shape[1], shape[2], shape[3]));
                }
            }
        }
    }

    private static int[] onesBut(int place, int length) {
        int[] shape = {1, 1, 1, 1};
        shape[place] = length;
        return shape;
    }

    /** "at most 65536 CELLS"; "FULL as of a call". 65537 is a prime: 65538 = 331 * 198 is the first shape beyond. */
    private void cellsOfMade() {
        Edge edge = edge("at most 65536 CELLS");
        edge.makes("made [4096, 16]", x -> x.made(false, 2, 4096, 16, 0, 0), 4096, 16);
        edge.makes("made [16, 4096]", x -> x.made(true, 2, 16, 4096, 0, 0), 16, 4096);
        edge.makes("made [32, 64, 32]", x -> x.made(false, 3, 32, 64, 32, 0), 32, 64, 32);
        edge.makes("made [16, 16, 16, 16]", x -> x.made(true, 4, 16, 16, 16, 16), 16, 16, 16, 16);
        edge.isFull("made [331, 198]", x -> x.made(false, 2, 331, 198, 0, 0));
        edge.isFull("made [4096, 17]", x -> x.made(true, 2, 4096, 17, 0, 0));
        edge.isFull("made [32, 65, 32]", x -> x.made(false, 3, 32, 65, 32, 0));
        edge.isFull("made [17, 16, 16, 16]", x -> x.made(true, 4, 17, 16, 16, 16));
        edge.isFull("made, 2^32 cells", x -> x.made(false, 4, 256, 256, 256, 256));
        edge.isFull("made [4096, 4096, 256], 2^32 cells", x -> x.made(false, 3, 4096, 4096, 256, 0));
        edge.isFull("made, 2^48 cells", x -> x.made(true, 4, 4096, 4096, 4096, 4096));
    }

    /** "Tensors are numbered 0, 1, .. as they are made": what is refused takes no number. */
    private void numbersOfTensors() {
        due.about("Tensors are numbered 0, 1, .. as they are made");
        MeasuredTensors x = new MeasuredTensors();
        due.is("number", 0, x.number(1, 1));
        due.is("FULL", MeasuredTensors.FULL, x.made(false, 2, 4096, 17, 0, 0));
        due.is("made", 1, x.made(false, 1, 2, 0, 0, 0));
        due.is("WRONG", MeasuredTensors.WRONG, x.pair(3, 0, 1));
        due.is("index", 0, x.index(0, 0, 0, 0, 0, 1));
        due.isIllegal("number(2, 2)", () -> x.number(2, 2));
        due.is("turned", 2, x.turned(1));
        due.isOutOfBounds("turned(3)", () -> x.turned(3));
        due.is("over", 3, x.over(2, 1, 1));
        due.is("index", 1, x.index(0, 0, 0, 0, 0, 1));
        due.is("pair", 4, x.pair(0, 3, 3));
    }

    /**
     * "at most 4000", "FULL: too much: there are 4000 tensors". No 512 calls reach it, and what later ones answer is
     * free: this class keeps to it there too.
     */
    private void most4000Tensors() {
        due.about("there are 4000 tensors");
        MeasuredTensors x = new MeasuredTensors();
        x.made(false, 1, 2, 0, 0, 0);
        for (int k = 1; k < 3999; k++) {
            x.number(1, 1);
        }
        due.is("the 4000th", 3999, x.number(1, 1));
        due.holds(x, 4000, 0, 4001, MeasuredTensors.NONE);
        int full = MeasuredTensors.FULL;
        due.is("number", full, x.number(1, 1));
        due.is("made", full, x.made(true, 0, 0, 0, 0, 0));
        due.is("pair", full, x.pair(0, 0, 0));
        due.is("turned", full, x.turned(0));
        due.is("over", full, x.over(0, 1, 1));
        due.is("call", full, x.call(5, 1, 0, 0, 0, 0, 0));
        due.is("reshape", full, x.reshape(0, 1, 2, 0, 0, 0));
        due.is("pair, WRONG before FULL", MeasuredTensors.WRONG, x.pair(3, 0, 1));
        due.is("call, WRONG before FULL", MeasuredTensors.WRONG, x.call(12, 1, 0, 0, 0, 0, 0));
        due.is("reshape, WRONG before FULL", MeasuredTensors.WRONG, x.reshape(0, 1, 3, 0, 0, 0));
        due.isIllegal("number(2, 2)", () -> x.number(2, 2));
        due.isOutOfBounds("told(4000, 0)", () -> x.told(4000, 0));
        due.holds(x, 4000, 0, 4001, MeasuredTensors.NONE);
        due.is("told(3999, 7)", 1, x.told(3999, 7));
        x.begin(0);
        due.is("made behind begin", 0, x.made(false, 0, 0, 0, 0, 0));
    }

    /** "An index likewise"; "IllegalArgumentException: as for made". */
    private void sidesOfIndices() {
        Edge edge = edge("An index likewise");
        takesIndex(edge, 0, 0, 4097, -1, MOST, 1);
        takesIndex(edge, 1, 1, 0, 0, LEAST, 1);
        takesIndex(edge, 2, 1, 4096, 0, 0, 1);
        takesIndex(edge, 3, 1, 1, 4096, 0, 1);
        takesIndex(edge, 4, 1, 1, 1, 4096, 1);
        for (int sides : new int[] {-1, 5, LEAST, MOST}) {
            edge.isIllegal("index, " + sides + " sides", x -> x.index(sides, 1, 1, 1, 1, 1));
        }
        for (int place = 0; place < 4; place++) {
            for (int length : new int[] {0, 4097, -1, LEAST, MOST}) {
                int[] shape = onesBut(place, length);
                for (int count = place + 1; count <= 4; count++) {
                    int k = count;
                    edge.isIllegal("index, " + k + " sides, one of " + length,
                            x -> x.index(k, shape[0], shape[1], shape[2], shape[3], 1));
                }
            }
        }
    }

    /** The index is numbered apart, behind the two of the past; no tensor comes of it. */
    private void takesIndex(Edge edge, int sides, int a, int b, int c, int d, int below) {
        MeasuredTensors x = edge.begun();
        MeasuredTensors twin = edge.begun();
        due.is("index of " + sides + " sides below " + below, 2, x.index(sides, a, b, c, d, below));
        due.holds(x, twin.all(0), 3, twin.all(2), twin.all(3));
    }

    /** "INDICES have a shape of at most 4096 cells"; "it would have more than 4096 cells". 4097 = 17 * 241. */
    private void cellsOfIndices() {
        Edge edge = edge("INDICES have a shape of at most 4096 cells");
        takesIndex(edge, 1, 4096, 0, 0, 0, 5);
        takesIndex(edge, 2, 64, 64, 0, 0, 5);
        takesIndex(edge, 3, 16, 16, 16, 0, 5);
        takesIndex(edge, 4, 8, 8, 8, 8, 5);
        edge.isUnsupported("index [17, 241]", x -> x.index(2, 17, 241, 0, 0, 5));
        edge.isUnsupported("index [4096, 2]", x -> x.index(2, 4096, 2, 0, 0, 5));
        edge.isUnsupported("index [16, 16, 17]", x -> x.index(3, 16, 16, 17, 0, 5));
        edge.isUnsupported("index [8, 8, 9, 8]", x -> x.index(4, 8, 8, 9, 8, 5));
        edge.isUnsupported("index, 2^32 cells", x -> x.index(4, 256, 256, 256, 256, 5));
        edge.isUnsupported("index, 2^48 cells", x -> x.index(4, 4096, 4096, 4096, 4096, 5));
        edge.isIllegal("index [4096, 2] below 0", x -> x.index(2, 4096, 2, 0, 0, 0));
        edge.isIllegal("index [4096, 4096, 0]", x -> x.index(3, 4096, 4096, 0, 0, 1));
    }

    /** "a number that what they tell is BELOW, 1 .. 65536"; "or below is not 1 .. 65536". */
    private void below() {
        Edge edge = edge("BELOW, 1 .. 65536");
        takesIndex(edge, 1, 3, 0, 0, 0, 1);
        takesIndex(edge, 1, 3, 0, 0, 0, 65536);
        for (int below : new int[] {0, 65537, -1, LEAST, MOST}) {
            edge.isIllegal("index below " + below, x -> x.index(1, 3, 0, 0, 0, below));
        }
    }

    /** "they are numbered apart, at most 1000"; "or there are 1000". Beyond 512 calls too, as of the 4000 tensors. */
    private void most1000Indices() {
        due.about("they are numbered apart, at most 1000");
        MeasuredTensors x = new MeasuredTensors();
        x.made(false, 2, 4, 1, 0, 0);
        for (int k = 0; k < 999; k++) {
            x.index(1, 2, 0, 0, 0, 3);
        }
        due.is("the 1000th", 999, x.index(1, 3, 0, 0, 0, 4));
        due.isThrown("the 1001st", UnsupportedOperationException.class, () -> x.index(1, 3, 0, 0, 0, 4));
        due.isIllegal("the 1001st, below 0", () -> x.index(1, 3, 0, 0, 0, 0));
        due.holds(x, 1, 1000, 4, MeasuredTensors.NONE);
        due.is("pick by the 1000th", 1, x.call(16, 2, 0, -1000, 0, 0, 0));
        due.hasShape(x, 1, 3, 1);
        due.isOutOfBounds("pick by a 1001st", () -> x.call(16, 2, 0, -1001, 0, 0, 0));
        x.begin(0);
        due.is("index behind begin", 0, x.index(0, 0, 0, 0, 0, 1));
    }

    /** "All tensors, indices and the loss go; p is told. IllegalArgumentException: it is not 0 .. 64." */
    private void begin() {
        Edge edge = edge("p is told; it is not 0 .. 64");
        for (int p : new int[] {0, 64}) {
            MeasuredTensors x = edge.begun();
            x.begin(p);
            due.holds(x, 0, 0, 0, MeasuredTensors.NONE);
            due.isOutOfBounds("told(0, 0)", () -> x.told(0, 0));
            due.is("made(true, ..)", 0, x.made(true, 1, 3, 0, 0, 0));
            due.hasMeasure(x, 0, 1, 15, p, 1);
            due.isOutOfBounds("hinge by an index that went", () -> x.call(17, 2, 0, -1, 0, 0, 0));
        }
        for (int p : new int[] {-1, 65, LEAST, MOST}) {
            edge.isIllegal("begin(" + p + ")", x -> begin(x, p));
        }
    }

    /** "IllegalArgumentException: u is below 0, or l below 1, or they are not in least terms." */
    private void number() {
        Edge edge = edge("u is below 0, or l below 1, or they are not in least terms");
        int[][] fine = {{0, 1}, {1, 1}, {1, 2}, {MOST, 1}, {1, MOST}, {MOST, MOST - 1}, {MOST - 1, MOST}};
        for (int[] k : fine) {
            edge.makes("number(" + k[0] + ", " + k[1] + ")", x -> x.number(k[0], k[1]));
        }
        int[][] illegal = {{-1, 1}, {LEAST, 1}, {-1, 2}, {1, 0}, {0, 0}, {1, -1}, {1, LEAST}, {-1, -1}, {0, 2},
            {0, MOST}, {2, 2}, {2, 4}, {6, 3}, {MOST, MOST}, {LEAST, LEAST}, {MOST - 1, 2}, {3, 3 * 715827881}};
        for (int[] k : illegal) {
            edge.isIllegal("number(" + k[0] + ", " + k[1] + ")", x -> x.number(k[0], k[1]));
        }
    }

    /** "IllegalArgumentException: u or l is below 1, or they are not in least terms." */
    private void over() {
        Edge edge = edge("u or l is below 1, or they are not in least terms");
        int[][] fine = {{1, 1}, {1, 2}, {2, 1}, {MOST, 1}, {1, MOST}, {MOST, MOST - 1}, {MOST - 1, MOST}};
        for (int[] k : fine) {
            edge.makes("over(0, " + k[0] + ", " + k[1] + ")", x -> x.over(0, k[0], k[1]), 3);
        }
        int[][] illegal = {{0, 1}, {1, 0}, {0, 0}, {-1, 1}, {1, -1}, {-1, -1}, {LEAST, 1}, {1, LEAST}, {2, 2}, {2, 4},
            {6, 3}, {MOST, MOST}, {LEAST, LEAST}, {MOST - 1, 2}, {2, MOST - 1}};
        for (int[] k : illegal) {
            edge.isIllegal("over(0, " + k[0] + ", " + k[1] + ")", x -> x.over(0, k[0], k[1]));
        }
    }

    /** "WRONG: other cells."; "IllegalArgumentException: as for made." */
    private void reshape() {
        Edge edge = edge("WRONG: other cells. IllegalArgumentException: as for made");
        edge.makes("[3] to [3]", x -> x.reshape(0, 1, 3, LEAST, 0, MOST), 3);
        edge.makes("[3] to [1, 3, 1, 1]", x -> x.reshape(0, 4, 1, 3, 1, 1), 1, 3, 1, 1);
        edge.makes("[] to []", x -> x.reshape(2, 0, 0, 0, 0, 0));
        edge.makes("[] to [1]", x -> x.reshape(2, 1, 1, 0, 0, 0), 1);
        edge.isWrong("[3] to [2]", x -> x.reshape(0, 1, 2, 0, 0, 0));
        edge.isWrong("[3] to [4]", x -> x.reshape(0, 1, 4, 0, 0, 0));
        edge.isWrong("[3] to []", x -> x.reshape(0, 0, 3, 0, 0, 0));
        edge.isWrong("[] to [2]", x -> x.reshape(2, 1, 2, 0, 0, 0));
        edge.isWrong("[3] to 65792 cells", x -> x.reshape(0, 2, 257, 256, 0, 0));
        edge.isWrong("[3] to 2^48 cells", x -> x.reshape(0, 4, 4096, 4096, 4096, 4096));
        for (int sides : new int[] {-1, 5, LEAST, MOST}) {
            edge.isIllegal("reshape to " + sides + " sides", x -> x.reshape(0, sides, 3, 1, 1, 1));
        }
        for (int place = 0; place < 4; place++) {
            for (int length : new int[] {0, 4097, -3, LEAST, MOST}) {
                int[] shape = onesBut(place, length);
                int sides = place + 1;
                edge.isIllegal("reshape to a side of " + length,
                        x -> x.reshape(0, sides, shape[0], shape[1], shape[2], shape[3]));
            }
        }
        Edge large = new Edge(due, "WRONG: other cells", x -> x.made(false, 2, 4096, 16, 0, 0));
        large.makes("65536 cells to others", x -> x.reshape(0, 3, 32, 32, 64, 0), 32, 32, 64);
        large.isWrong("65536 cells to 65538", x -> x.reshape(0, 2, 331, 198, 0, 0));
        large.isWrong("65536 cells to 65280", x -> x.reshape(0, 2, 255, 256, 0, 0));
        large.isWrong("65536 cells to 2^32", x -> x.reshape(0, 4, 256, 256, 256, 256));
    }
}
