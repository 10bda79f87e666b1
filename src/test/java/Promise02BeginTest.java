/** Promise 2: begin. */
final class Promise02BeginTest {
    private static final int NONE = MeasuredTensors.NONE;

    public static void main(String[] args) {
        Due due = new Due("Promise 2");
        tellsPlacesOfParams(due);
        takesAllAway(due);
        leavesNoTrace(due);
        refusesOtherPlaces(due);
        due.end();
    }

    private static void tellsPlacesOfParams(Due due) {
        due.about("p is a number that is told at the beginning. input: 16, 16, 1. param: 15, p, 1");
        MeasuredTensors x = new MeasuredTensors();
        for (int p : new int[] {0, 1, 20, 63, 64}) {
            x.begin(p);
            due.is("made(true, ..)", 0, x.made(true, 1, 7, 0, 0, 0));
            due.hasMeasure(x, 0, 1, 15, p, 1);
            due.is("made(false, ..)", 1, x.made(false, 1, 7, 0, 0, 0));
            due.hasMeasure(x, 1, 1, 16, 16, 1);
        }
    }

    private static void takesAllAway(Due due) {
        due.about("All tensors, indices and the loss go; p is told");
        MeasuredTensors x = new MeasuredTensors();
        x.begin(5);
        x.made(true, 0, 0, 0, 0, 0);
        x.call(2, 1, 0, 0, 0, 0, 0);
        x.index(0, 0, 0, 0, 0, 1);
        x.loss(1);
        due.holds(x, 2, 1, 2, 1);
        x.begin(6);
        due.holds(x, 0, 0, 0, NONE);
        due.isOutOfBounds("told(0, 0)", () -> x.told(0, 0));
        due.isOutOfBounds("divisor(1, true)", () -> x.divisor(1, true));
        due.isOutOfBounds("call(17, 2, -1, -1, ..)", () -> x.call(17, 2, -1, -1, 0, 0, 0));
        due.is("index(..)", 0, x.index(1, 3, 0, 0, 0, 2));
        due.is("made(..)", 0, x.made(false, 2, 3, 4, 0, 0));
        due.hasShape(x, 0, 3, 4);
        due.hasMeasure(x, 0, 1, 16, 16, 1);
        due.hasNoSlope(x, 0);
        due.is("number(3, 5)", 1, x.number(3, 5));
        due.hasShape(x, 1);
        due.hasMeasure(x, 1, 1, 2, 0, 5);
        due.hasNoSlope(x, 1);
        due.holds(x, 2, 1, 13, NONE);
    }

    /** Tensors of the same numbers as those that went, made otherwise. */
    private static void leavesNoTrace(Due due) {
        due.about("All tensors, indices and the loss go");
        MeasuredTensors x = new MeasuredTensors();
        x.made(true, 2, 4, 4, 0, 0);
        for (int k = 0; k < 4; k++) {
            x.pair(3, 0, 0);
        }
        x.call(3, 1, 0, 0, 0, 0, 0);
        x.over(0, 3, 1);
        x.call(2, 1, 0, 0, 0, 0, 0);
        x.begin(0);
        x.made(false, 1, 3, 0, 0, 0);
        x.made(false, 1, 3, 0, 0, 0);
        x.turned(0);
        x.call(14, 2, 2, 1, 0, 0, 0);
        x.call(0, 1, 3, 0, 0, 0, 0);
        x.call(1, 1, 4, 0, 0, 0, 0);
        x.call(7, 1, 5, 0, 1, 0, 0);
        x.reshape(6, 0, 0, 0, 0, 0);
        x.loss(7);
        for (int t = 0; t < 8; t++) {
            due.hasMeasure(x, t, 1, 16, 16, 1);
            due.hasSlope(x, t, 1, 1, 0, 1);
        }
    }

    private static void refusesOtherPlaces(Due due) {
        due.about("IllegalArgumentException: it is not 0 .. 64");
        MeasuredTensors x = new MeasuredTensors();
        x.begin(7);
        x.made(true, 0, 0, 0, 0, 0);
        x.index(0, 0, 0, 0, 0, 1);
        x.loss(0);
        for (int p : new int[] {-1, 65, Integer.MIN_VALUE, Integer.MAX_VALUE}) {
            due.isIllegal("begin(" + p + ")", () -> {
                x.begin(p);
                return 0;
            });
            due.holds(x, 1, 1, 1, 0);
            due.hasSlope(x, 0, 1, 1, 0, 1);
        }
        due.is("made(true, ..)", 1, x.made(true, 0, 0, 0, 0, 0));
        due.hasMeasure(x, 1, 1, 15, 7, 1);
    }
}
