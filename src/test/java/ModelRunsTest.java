/** Long runs of calls, held against the model; always the same ones. */
final class ModelRunsTest {
    private static final int RUNS = 3000, CALLS = 512, LAST_LOOKS = 60, NO_MATTER = -1;

    private interface Asked {
        long get();
    }

    private final Due due;
    private long seed;
    private MeasuredTensors x;
    private Model model;
    private int style;
    private final int[] counts = new int[5];

    private ModelRunsTest(Due due) {
        this.due = due;
    }

    public static void main(String[] args) {
        Due due = new Due("Runs beside the model");
        ModelRunsTest test = new ModelRunsTest(due);
        for (int run = 0; run < RUNS; run++) {
            test.run(run);
        }
        System.out.println("made " + test.counts[0] + ", WRONG " + test.counts[1] + ", FULL " + test.counts[2]
                + ", thrown " + test.counts[3] + ", other answers " + test.counts[4]);
        for (int k = 0; k < 5; k++) {
            due.is("answers of kind " + k + " are many", 1, test.counts[k] > 1000 ? 1 : 0);
        }
        due.end();
    }

    private int below(int n) {
        seed = seed * 6364136223846793005L + 1442695040888963407L;
        return (int) ((seed >>> 33) % n);
    }

    private void run(int number) {
        seed = number;
        style = number % 4;
        x = new MeasuredTensors();
        model = new Model();
        int calls = 0;
        while (calls < CALLS - LAST_LOOKS) {
            ask();
            calls++;
        }
        // What stands at the end is looked at, as far as the calls of an object reach.
        for (int k = 0; k < 5; k++) {
            int t = below(tensors() + 1);
            for (int what = 0; what <= 11; what++) {
                told(t, what);
            }
        }
    }

    private void compare(String call, Asked got, Asked want) {
        String due = answer(want);
        String is = answer(got);
        boolean number = due.charAt(0) != 'j';
        int kind = !number ? 3 : due.equals("-5") ? 1 : due.equals("-8") ? 2 : call.startsWith("make") ? 0 : 4;
        counts[kind]++;
        if (!is.equals(due)) {
            System.out.println(call + ": " + is + ", the model says " + due);
        }
        this.due.is(call, 1, is.equals(due) ? 1 : 0);
    }

    private static String answer(Asked asked) {
        try {
            return Long.toString(asked.get());
        } catch (RuntimeException e) {
            return e.getClass().getName();
        }
    }

    private void ask() {
        int kind = below(100);
        if (kind < 1) {
            begin(below(4) == 0 ? below(80) - 8 : below(65));
        } else if (kind < 6) {
            int u = whole();
            int l = whole();
            compare("make number", () -> x.number(u, l), () -> model.number(u, l));
        } else if (kind < 18) {
            made();
        } else if (kind < 22) {
            int[] s = sides();
            int most = below(3) == 0 ? 65540 : 6;
            int limit = below(most);
            compare("index", () -> x.index(s[0], s[1], s[2], s[3], s[4], limit),
                    () -> model.index(s[0], s[1], s[2], s[3], s[4], limit));
        } else if (kind < 42) {
            int how = below(40) == 0 ? below(9) - 2 : below(4);
            int a = tensor();
            int b = below(4) == 0 ? a : tensor();
            compare("make pair " + how, () -> x.pair(how, a, b), () -> model.pair(how, a, b));
        } else if (kind < 44) {
            int a = tensor();
            compare("make turned", () -> x.turned(a), () -> model.turned(a));
        } else if (kind < 49) {
            int a = tensor();
            int u = whole();
            int l = whole();
            compare("make over", () -> x.over(a, u, l), () -> model.over(a, u, l));
        } else if (kind < 81) {
            call();
        } else if (kind < 85) {
            reshape();
        } else if (kind < 90) {
            int t = tensor();
            compare("loss", () -> x.loss(t), () -> model.loss(t));
        } else {
            look();
        }
    }

    private void look() {
        int what = below(20) - 4;
        if (below(3) == 0) {
            compare("all", () -> x.all(what), () -> model.all(what));
        } else if (below(3) == 0) {
            int t = tensor();
            boolean slope = below(2) == 0;
            compare("divisor", () -> x.divisor(t, slope), () -> model.divisor(t, slope));
        } else {
            told(tensor(), what);
        }
    }

    private void begin(int p) {
        compare("begin", () -> {
            x.begin(p);
            return 0;
        }, () -> model.begin(p));
    }

    private void told(int t, int what) {
        compare("told " + what, () -> x.told(t, what), () -> model.told(t, what));
    }

    private void made() {
        boolean param = below(2) == 0;
        int[] s = sides();
        compare("make made", () -> x.made(param, s[0], s[1], s[2], s[3], s[4]),
                () -> model.made(param, s[0], s[1], s[2], s[3], s[4]));
    }

    private void reshape() {
        int t = tensor();
        int[] s = sides();
        if (below(2) == 0 && t >= 0 && t < tensors()) {
            // The same sides in the other order, or as one.
            boolean one = below(2) == 0;
            s[0] = one ? 1 : (int) model.told(t, 0);
            for (int k = 1; k <= 4; k++) {
                s[k] = one ? (int) model.told(t, 5) : k <= s[0] ? (int) model.told(t, s[0] + 1 - k) : 0;
            }
        }
        compare("make reshape", () -> x.reshape(t, s[0], s[1], s[2], s[3], s[4]),
                () -> model.reshape(t, s[0], s[1], s[2], s[3], s[4]));
    }

    private void call() {
        int what = below(60) == 0 ? below(30) - 4 : below(19);
        boolean two = what == 8 || what == 14 || what >= 16;
        int n = below(40) == 0 ? below(6) - 1 : two ? 2 : 1;
        int usual = what == 13 ? 2 : what >= 7 && what <= 10 || what == 15 ? 1 : what == 5 || what == 6 ? below(2) : 0;
        int m = below(40) == 0 ? below(6) - 1 : usual;
        int a = fitting(what == 8 || what == 9 || what == 10 || what == 15 ? 3 : what == 12 || what == 16 ? 2
                : what == 17 ? 1 : NO_MATTER);
        int b = what == 16 || what == 17 ? (below(20) == 0 ? tensor() : -1 - below((int) model.all(1) + 1))
                : below(30) == 0 ? -1 - below(3) : what == 8 ? fitting(4) : below(3) == 0 ? a : tensor();
        int first = small();
        int second = small();
        compare("make call " + what, () -> x.call(what, n, a, b, m, first, second),
                () -> model.call(what, n, a, b, m, first, second));
    }

    /** The model is asked, as an object has no calls to spare. */
    private int tensors() {
        return (int) model.all(0);
    }

    /** A tensor with so many sides, if a few looks find one. */
    private int fitting(int sides) {
        int t = tensor();
        for (int k = 0; k < 20 && sides != NO_MATTER; k++) {
            if (t >= 0 && t < tensors() && model.told(t, 0) == sides) {
                return t;
            }
            t = tensor();
        }
        return t;
    }

    private int tensor() {
        int count = tensors();
        if (below(60) == 0) {
            int[] odd = {-1, -2, count, count + 1, Integer.MIN_VALUE, Integer.MAX_VALUE};
            return odd[below(odd.length)];
        }
        // The newest ones more often, so that chains grow long.
        int back = below(2) == 0 ? below(4) : below(count + 1);
        return count - 1 - back < 0 ? below(count + 1) : count - 1 - back;
    }

    private int small() {
        int[] odd = {-1, 16, 17, 4096, 4097, Integer.MAX_VALUE, Integer.MIN_VALUE};
        return below(30) == 0 ? odd[below(odd.length)] : below(5);
    }

    private int whole() {
        int[] some = {0, 1, 1, 1, 2, 3, 4, 5, 7, 8, 9, 11, 16, 27, 1 << 20, 1 << 30, Integer.MAX_VALUE, -1,
            Integer.MIN_VALUE, 715827883, 65537};
        return below(4) == 0 ? below(1000) : some[below(some.length)];
    }

    private int[] sides() {
        int[] s = {below(40) == 0 ? below(9) - 2 : below(5), 0, 0, 0, 0};
        for (int k = 1; k <= 4; k++) {
            s[k] = style == 0 && below(3) == 0 ? 1 + below(200) : 1 + below(style == 1 ? 2 : 4);
            if (below(100) == 0) {
                int[] odd = {0, -1, 4095, 4096, 4097, Integer.MAX_VALUE, 256, 16};
                s[k] = odd[below(odd.length)];
            }
        }
        return s;
    }
}
