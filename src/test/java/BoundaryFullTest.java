/** Boundaries of what a result may be: its cells, its sides, and WRONG before FULL. */
final class BoundaryFullTest {
    private final Due due = new Due("Boundaries of results");

    public static void main(String[] args) {
        BoundaryFullTest test = new BoundaryFullTest();
        test.cellsOfProducts();
        test.cellsOfMoves();
        test.sidesOfResults();
        test.wrongBeforeFull();
        test.wrongBeforeFullMeasure();
        test.due.end();
    }

    private static int[] of(int... sides) {
        return sides;
    }

    /** Params of these shapes, numbered 0, 1, ..; indices [256] and [331] below 1, and a number that is the loss. */
    private Edge edge(String words, int[]... shapes) {
        return new Edge(due, words, x -> {
            for (int[] shape : shapes) {
                Ask.param(x, shape);
            }
            Ask.index(x, 1, 256);
            Ask.index(x, 1, 331);
            x.loss(x.number(1, 1));
        });
    }

    /** "a result has more than 65536 cells": 65537 is a prime, 65538 = 331 * 198 is the first that a shape can have. */
    private void cellsOfProducts() {
        String words = "a result has more than 65536 cells";
        Edge products = edge(words, of(256, 1), of(1, 256), of(331, 1), of(1, 198), of(4096, 1), of(1, 4096));
        products.makes("[256, 1] @ [1, 256]", x -> x.pair(3, 0, 1), 256, 256);
        products.isFull("[331, 1] @ [1, 198]", x -> x.pair(3, 2, 3));
        products.isFull("[4096, 1] @ [1, 4096]", x -> x.pair(3, 4, 5));
        Edge filters = edge(words, of(1, 16, 16), of(256, 1, 1, 1), of(1, 18, 11), of(331, 1, 1, 1), of(4096, 1, 1, 1),
                of(1, 4096, 1), of(1, 64, 64));
        filters.makes("conv to [256, 16, 16]", x -> Ask.two(x, Ask.CONV, 0, 1, 1), 256, 16, 16);
        filters.isFull("conv to [331, 18, 11]", x -> Ask.two(x, Ask.CONV, 2, 3, 1));
        filters.isFull("conv to [4096, 4096, 1]", x -> Ask.two(x, Ask.CONV, 5, 4, 1));
        filters.isFull("conv to [4096, 64, 64]", x -> Ask.two(x, Ask.CONV, 6, 4, 1));
    }

    /** "a result has more than 65536 cells", of what only moves cells. */
    private void cellsOfMoves() {
        String words = "a result has more than 65536 cells";
        Edge joins = edge(words, of(96, 16, 32), of(32, 16, 32), of(300, 198), of(31, 198), of(30, 198),
                of(33, 16, 32));
        joins.makes("join to [128, 16, 32]", x -> Ask.two(x, Ask.JOIN, 0, 1), 128, 16, 32);
        joins.isFull("join to [129, 16, 32]", x -> Ask.two(x, Ask.JOIN, 0, 5));
        joins.makes("join to [330, 198]", x -> Ask.two(x, Ask.JOIN, 2, 4), 330, 198);
        joins.isFull("join to [331, 198]", x -> Ask.two(x, Ask.JOIN, 2, 3));
        Edge pads = edge(words, of(1, 254, 254), of(1, 329, 196), of(64, 4, 4), of(65, 4, 4), of(16, 4000, 1));
        pads.makes("pad to [1, 256, 256]", x -> Ask.one(x, Ask.PAD, 0, 1), 1, 256, 256);
        pads.isFull("pad to [1, 331, 198]", x -> Ask.one(x, Ask.PAD, 1, 1));
        pads.makes("pad to [64, 32, 32]", x -> Ask.one(x, Ask.PAD, 2, 14), 64, 32, 32);
        pads.isFull("pad to [65, 32, 32]", x -> Ask.one(x, Ask.PAD, 3, 14));
        pads.isFull("pad to [16, 4032, 33]", x -> Ask.one(x, Ask.PAD, 4, 16));
        Edge picks = edge(words, of(1, 256), of(1, 198), of(1, 4096));
        picks.makes("pick to [256, 256]", x -> Ask.two(x, Ask.PICK, 0, -1), 256, 256);
        picks.isFull("pick to [331, 198]", x -> Ask.two(x, Ask.PICK, 1, -2));
        picks.isFull("pick to [331, 4096]", x -> Ask.two(x, Ask.PICK, 2, -2));
    }

    /** "or a side above 4096". */
    private void sidesOfResults() {
        String words = "a result has a side above 4096";
        Edge joins = edge(words, of(4095), of(1), of(2), of(2048, 2), of(2049, 2), of(4096));
        joins.makes("join to [4096]", x -> Ask.two(x, Ask.JOIN, 0, 1), 4096);
        joins.isFull("join to [4097]", x -> Ask.two(x, Ask.JOIN, 0, 2));
        joins.isFull("join to [4097], the shorter first", x -> Ask.two(x, Ask.JOIN, 2, 0));
        joins.makes("join to [4096, 2]", x -> Ask.two(x, Ask.JOIN, 3, 3), 4096, 2);
        joins.isFull("join to [4097, 2]", x -> Ask.two(x, Ask.JOIN, 3, 4));
        joins.isFull("join to [8192]", x -> Ask.two(x, Ask.JOIN, 5, 5));
        Edge pads = edge(words, of(1, 4094, 1), of(1, 4095, 1), of(1, 1, 4094), of(1, 1, 4095), of(1, 4096, 1));
        pads.makes("pad to [1, 4096, 3]", x -> Ask.one(x, Ask.PAD, 0, 1), 1, 4096, 3);
        pads.isFull("pad to [1, 4097, 3]", x -> Ask.one(x, Ask.PAD, 1, 1));
        pads.makes("pad to [1, 3, 4096]", x -> Ask.one(x, Ask.PAD, 2, 1), 1, 3, 4096);
        pads.isFull("pad to [1, 3, 4097]", x -> Ask.one(x, Ask.PAD, 3, 1));
        pads.isFull("pad to [1, 4098, 3]", x -> Ask.one(x, Ask.PAD, 4, 1));
    }

    /** "(WRONG before FULL.)": calls that are both, by the cells or sides that would come of them. */
    private void wrongBeforeFull() {
        Edge edge = edge("WRONG before FULL",
                of(4096, 15), of(4096, 14), of(331, 1), of(2, 198), of(1, 4095, 1), of(1, 198));
        edge.isFull("join", x -> Ask.two(x, Ask.JOIN, 0, 0));
        edge.isWrong("join of other sides", x -> Ask.two(x, Ask.JOIN, 0, 1));
        edge.isWrong("join with a whole number", x -> Ask.two(x, Ask.JOIN, 0, 0, 1));
        edge.isFull("[331, 1] @ [1, 198]", x -> x.pair(3, 2, 5));
        edge.isWrong("[331, 1] @ [2, 198]", x -> x.pair(3, 2, 3));
        edge.isFull("pad by 16", x -> Ask.one(x, Ask.PAD, 4, 16));
        edge.isWrong("pad by 17", x -> Ask.one(x, Ask.PAD, 4, 17));
        edge.isWrong("pad by 0", x -> Ask.one(x, Ask.PAD, 4, 0));
        edge.isFull("pick to [331, 198]", x -> Ask.two(x, Ask.PICK, 5, -2));
        edge.isWrong("pick of [1, 4095, 1]", x -> Ask.two(x, Ask.PICK, 4, -2));
        edge.isWrong("reshape to 2^48 cells", x -> Ask.reshape(x, 0, 4096, 4096, 4096, 4096));
    }

    /** "(WRONG before FULL.)", by the measure. */
    private void wrongBeforeFullMeasure() {
        Edge wide = new Edge(due, "WRONG before FULL", x -> {
            Ask.param(x, 3);
            Ask.param(x, 2);
            Ask.index(x, 4);
            Wide.range(x, 0, 4000);
        });
        wide.isFull("[3] + [3]", x -> x.pair(0, Ask.last(x), 0));
        wide.isWrong("[3] + [2]", x -> x.pair(0, Ask.last(x), 1));
        wide.isFull("[3] * [3]", x -> x.pair(2, Ask.last(x), 0));
        wide.isWrong("[3] * [2]", x -> x.pair(2, Ask.last(x), 1));
        wide.isFull("[3] @ [3]", x -> x.pair(3, Ask.last(x), 0));
        wide.isWrong("[3] @ [2]", x -> x.pair(3, Ask.last(x), 1));
        wide.isFull("sum", x -> Ask.one(x, Ask.SUM, Ask.last(x)));
        wide.isWrong("sum along side 1", x -> Ask.one(x, Ask.SUM, Ask.last(x), 1));
        wide.isFull("mean", x -> Ask.one(x, Ask.MEAN, Ask.last(x)));
        wide.isWrong("mean along side 1", x -> Ask.one(x, Ask.MEAN, Ask.last(x), 1));
        wide.isFull("square", x -> Ask.one(x, Ask.SQUARE, Ask.last(x)));
        wide.isWrong("square with a whole number", x -> Ask.one(x, Ask.SQUARE, Ask.last(x), 0));
        wide.isFull("gap of [3] and [3]", x -> Ask.two(x, Ask.GAP, Ask.last(x), 0));
        wide.isWrong("gap of [3] and [2]", x -> Ask.two(x, Ask.GAP, Ask.last(x), 1));
        wide.isWrong("hinge below 4 of 3", x -> Ask.two(x, Ask.HINGE, Ask.last(x), -1));
        wide.isWrong("pool of [3]", x -> Ask.one(x, Ask.POOL, Ask.last(x), 1));
    }
}
