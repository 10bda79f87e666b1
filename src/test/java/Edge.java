/**
 * One boundary of the document, under the words that name it: calls on both sides of it, each on a new object with the
 * same past. What a call may not have changed is held against a twin that has the same past without that call.
 */
final class Edge {
    interface Past {
        void play(MeasuredTensors x);
    }

    interface Call {
        long on(MeasuredTensors x);
    }

    private final Due due;
    private final String words;
    private final Past past;

    Edge(Due due, String words, Past past) {
        this.due = due;
        this.words = words;
        this.past = past;
    }

    MeasuredTensors begun() {
        due.about(words);
        MeasuredTensors x = new MeasuredTensors();
        past.play(x);
        return x;
    }

    /** A tensor of this shape is made, and all that was there before is as it was. */
    MeasuredTensors makes(String call, Call making, int... shape) {
        MeasuredTensors x = begun();
        MeasuredTensors twin = begun();
        int t = twin.all(0);
        due.is(call, t, making.on(x));
        due.hasShape(x, t, shape);
        due.hasNoSlope(x, t);
        due.holds(x, t + 1, twin.all(1), twin.all(2) + x.told(t, 5) * x.told(t, 6), twin.all(3));
        due.isSame("what was made before " + call, tensorsBelow(twin, t), tensorsBelow(x, t));
        return x;
    }

    void isWrong(String call, Call refused) {
        answers(call, MeasuredTensors.WRONG, refused);
    }

    void isFull(String call, Call refused) {
        answers(call, MeasuredTensors.FULL, refused);
    }

    void isIllegal(String call, Call refused) {
        isThrown(call, IllegalArgumentException.class, refused);
    }

    void isOutOfBounds(String call, Call refused) {
        isThrown(call, IndexOutOfBoundsException.class, refused);
    }

    void isUnsupported(String call, Call refused) {
        isThrown(call, UnsupportedOperationException.class, refused);
    }

    /** An answer that changes nothing. */
    void answers(String call, long want, Call asked) {
        MeasuredTensors x = begun();
        due.is(call, want, asked.on(x));
        isAsBefore(call, x);
    }

    /** A loss that is FULL: what then stands is what would stand if there had never been a loss. */
    void losesTheLoss(String call, Call refused, Past pastWithoutLoss) {
        MeasuredTensors x = begun();
        due.is(call, MeasuredTensors.FULL, refused.on(x));
        MeasuredTensors twin = new MeasuredTensors();
        pastWithoutLoss.play(twin);
        due.isSame("the state behind " + call, state(twin), state(x));
        due.isSame("what is answered later behind " + call, later(twin), later(x));
    }

    private void isThrown(String call, Class<? extends RuntimeException> want, Call refused) {
        MeasuredTensors x = begun();
        due.isThrown(call, want, () -> refused.on(x));
        isAsBefore(call, x);
    }

    private void isAsBefore(String call, MeasuredTensors x) {
        MeasuredTensors twin = begun();
        due.isSame("the state behind " + call, state(twin), state(x));
        due.isSame("what is answered later behind " + call, later(twin), later(x));
    }

    private static String state(MeasuredTensors x) {
        StringBuilder text = new StringBuilder();
        for (int what = 0; what <= 3; what++) {
            text.append(x.all(what)).append(' ');
        }
        return text.append(tensorsBelow(x, x.all(0))).toString();
    }

    private static String tensorsBelow(MeasuredTensors x, int count) {
        StringBuilder text = new StringBuilder();
        for (int t = 0; t < count; t++) {
            text.append("| ");
            for (int what = 0; what <= 11; what++) {
                text.append(x.told(t, what)).append(' ');
            }
            text.append(x.divisor(t, false)).append(' ').append(x.divisor(t, true)).append(' ');
        }
        return text.toString();
    }

    /** What no question tells comes out by use: the number p, and the indices' shapes and what they are below. */
    private static String later(MeasuredTensors x) {
        StringBuilder text = new StringBuilder();
        int param = x.made(true, 0, 0, 0, 0, 0);
        text.append(param).append(' ').append(param < 0 ? 0 : x.told(param, 8)).append(' ');
        int indices = Math.min(x.all(1), 8);
        for (int rows = 1; rows <= 4 && indices > 0; rows++) {
            int table = x.made(false, 2, rows, 1, 0, 0);
            int row = x.made(false, 1, rows, 0, 0, 0);
            for (int i = 0; i < indices && table >= 0 && row >= 0; i++) {
                int picked = x.call(16, 2, table, -1 - i, 0, 0, 0);
                text.append(picked).append(' ').append(picked < 0 ? 0 : x.told(picked, 1)).append(' ');
                text.append(x.call(17, 2, row, -1 - i, 0, 0, 0)).append(' ');
            }
        }
        return text.toString();
    }
}
