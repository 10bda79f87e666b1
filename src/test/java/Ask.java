import java.util.Arrays;

/** Short forms of calls, for tests that make many of them. */
final class Ask {
    static final int PLUS = 0, MINUS = 1, TIMES = 2, MATRIX = 3;
    static final int RELU = 0, ABS = 1, SQUARE = 2, STEP = 3, STOP = 4, SUM = 5, MEAN = 6, HIGH = 7, CONV = 8, POOL = 9;
    static final int TOPS = 10, TURN = 12, PART = 13, JOIN = 14, PAD = 15, PICK = 16, HINGE = 17, GAP = 18;
    static final int[] CALLS = {RELU, ABS, SQUARE, STEP, STOP, SUM, MEAN, HIGH, CONV, POOL, TOPS, TURN, PART, JOIN, PAD,
        PICK, HINGE, GAP};

    private static final int UNREAD = Integer.MIN_VALUE;

    private Ask() {
    }

    static int[] of(int... sides) {
        return sides;
    }

    static int param(MeasuredTensors x, int... shape) {
        int[] k = Arrays.copyOf(shape, 4);
        return x.made(true, shape.length, k[0], k[1], k[2], k[3]);
    }

    static int input(MeasuredTensors x, int... shape) {
        int[] k = Arrays.copyOf(shape, 4);
        return x.made(false, shape.length, k[0], k[1], k[2], k[3]);
    }

    static int reshape(MeasuredTensors x, int t, int... shape) {
        int[] k = Arrays.copyOf(shape, 4);
        return x.reshape(t, shape.length, k[0], k[1], k[2], k[3]);
    }

    /** An index of this shape: its number as a call takes it. */
    static int index(MeasuredTensors x, int below, int... shape) {
        int[] k = Arrays.copyOf(shape, 4);
        return -1 - x.index(shape.length, k[0], k[1], k[2], k[3], below);
    }

    /** A call of one argument and these whole numbers; what it should not read would be refused if it did. */
    static int one(MeasuredTensors x, int what, int a, int... numbers) {
        return x.call(what, 1, a, UNREAD, numbers.length, at(numbers, 0), at(numbers, 1));
    }

    static int two(MeasuredTensors x, int what, int a, int b, int... numbers) {
        return x.call(what, 2, a, b, numbers.length, at(numbers, 0), at(numbers, 1));
    }

    private static int at(int[] numbers, int k) {
        return k < numbers.length ? numbers[k] : UNREAD;
    }

    static int last(MeasuredTensors x) {
        return x.all(0) - 1;
    }
}
