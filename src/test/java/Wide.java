/** Brings objects close to their bounds: tensors of a given range, places or divisor, and little work left. */
final class Wide {
    /** Factors of the greatest divisor, 2^62 - 1, and of the first odd number beyond the bound, 2^62 + 1. */
    static final int[] MOST = {Integer.MAX_VALUE, 715827883, 3}, BEYOND = {2147418113, 429509837, 5};
    static final long GREATEST_DIVISOR = (1L << 62) - 1;

    private Wide() {
    }

    /** From tensor t, one of its shape with this r, which is at least that of t; e 0 and q 1 stay as they are. */
    static int range(MeasuredTensors x, int t, int r) {
        int start = x.told(t, 7);
        int halvings = 0;
        while (start > 0 && (r >> (halvings + 1)) >= start) {
            halvings++;
        }
        int made = t;
        for (int k = halvings; k >= 0; k--) {
            made = k == halvings ? made : x.call(2, 1, made, 0, 0, 0, 0);
            for (int rest = (r >> k) - x.told(made, 7); rest > 0; rest -= 31) {
                made = x.over(made, 1, 1 << (Math.min(rest, 31) - 1));
            }
        }
        return made;
    }

    /** From tensor t, one of its shape with this e; r grows by as many divisions as it needs. */
    static int places(MeasuredTensors x, int t, int e) {
        int made = t;
        for (int k = 5; k >= 0; k--) {
            made = k == 5 ? made : x.call(2, 1, made, 0, 0, 0, 0);
            for (int rest = (e >> k) - x.told(made, 8); rest > 0; rest -= 30) {
                made = x.over(made, 1 << Math.min(rest, 30), 1);
            }
        }
        return made;
    }

    /** From tensor t, one of its shape with a divisor that is t's times all these. */
    static int divided(MeasuredTensors x, int t, int... factors) {
        int made = t;
        for (int factor : factors) {
            made = x.over(made, factor, 1);
        }
        return made;
    }

    /** Inputs, until so much of the work is left. */
    static void work(MeasuredTensors x, int left) {
        int rest = 1000000 - left - x.all(2);
        while (rest >= 65536) {
            rest -= 65536;
            x.made(false, 2, 4096, 16, 0, 0);
        }
        if (rest >= 4096) {
            x.made(false, 2, 4096, rest / 4096, 0, 0);
        }
        if (rest % 4096 > 0) {
            x.made(false, 1, rest % 4096, 0, 0, 0);
        }
    }
}
