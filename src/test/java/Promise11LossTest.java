/** Promise 11: loss, the slopes and the limbs. Slopes of each call stand in the tests of the promises 6 to 10. */
final class Promise11LossTest {
    private static final int FULL = MeasuredTensors.FULL, NONE = MeasuredTensors.NONE;

    public static void main(String[] args) {
        Due due = new Due("Promise 11");
        countsLimbs(due);
        measuresAnew(due);
        joinsUses(due);
        stepAndStopHaveNone(due);
        isFullOfLimbs(due);
        isFullOfRange(due);
        refuses(due);
        due.end();
    }

    private static void countsLimbs(Due due) {
        due.about("Answers the limbs. LIMBS: for each tensor its cells times ((r + e + 64) / 32 rounded up), and the "
                + "same of its slope, if it has one, all together");
        MeasuredTensors x = new MeasuredTensors();
        x.number(0, 1);
        due.is("2 limbs, and 3 of the slope", 2 + 3, x.loss(0));
        x.number(1, 1);
        due.is("3 limbs more", 2 + 3 + 3, x.loss(0));
        x.made(false, 1, 7, 0, 0, 0);
        due.is("r + e = 32: 3 limbs a cell", 8 + 21, x.loss(0));
        x.over(2, 1, 1);
        due.is("r + e = 33: 4 limbs a cell", 29 + 28, x.loss(1));
        x.call(2, 1, 2, 0, 0, 0, 0);
        due.is("r + e = 64: 4 limbs a cell", 57 + 28, x.loss(1));
        x.call(5, 1, 4, 0, 0, 0, 0);
        // The sum has r 35, e 32; slopes: 3 limbs each of 5 and 4, and 1 + 16 + 1 + 16 + 64 = 98 bits of 2.
        due.is("loss(5)", 85 - 3 + 5 + 3 + 7 * 3 + 7 * 4, x.loss(5));
        due.hasSlope(x, 2, 1, 18, 16, 1);
        due.hasNoSlope(x, 0);
    }

    private static void measuresAnew(Due due) {
        due.about("The loss: slopes are measured anew");
        MeasuredTensors x = new MeasuredTensors();
        x.begin(8);
        x.made(true, 0, 0, 0, 0, 0);
        x.made(true, 0, 0, 0, 0, 0);
        x.pair(2, 0, 1);
        x.call(2, 1, 0, 0, 0, 0, 0);
        due.hasNoSlope(x, 0);
        x.loss(2);
        due.hasSlope(x, 0, 1, 16, 8, 1);
        due.hasSlope(x, 1, 1, 16, 8, 1);
        due.hasNoSlope(x, 3);
        x.loss(3);
        due.hasSlope(x, 0, 1, 17, 8, 1);
        due.hasNoSlope(x, 1);
        due.hasNoSlope(x, 2);
        due.hasSlope(x, 3, 1, 1, 0, 1);
        due.is("all(3)", 3, x.all(3));
        int later = x.turned(3);
        due.hasNoSlope(x, later);
        due.hasSlope(x, 3, 1, 1, 0, 1);
        x.loss(later);
        due.hasSlope(x, 3, 1, 1, 0, 1);
        due.is("all(3)", later, x.all(3));
        x.loss(1);
        due.hasSlope(x, 1, 1, 1, 0, 1);
        due.hasNoSlope(x, 0);
        due.hasNoSlope(x, later);
    }

    private static void joinsUses(Due due) {
        due.about("Of several uses (a * a is two): greater e, least common multiple of q, greater r + L(how many "
                + "uses)");
        MeasuredTensors x = new MeasuredTensors();
        x.begin(3);
        x.made(true, 0, 0, 0, 0, 0);
        x.pair(2, 0, 0);
        x.loss(1);
        due.hasSlope(x, 0, 2, 1 + 15 + 1, 3, 1);
        x.over(0, 12, 1);
        x.over(0, 45, 8);
        x.pair(0, 2, 3);
        x.loss(4);
        due.hasSlope(x, 0, 2, 1 + 4 + 1, 2, 45);
        x.pair(1, 4, 0);
        x.loss(5);
        due.hasSlope(x, 0, 3, 5 + 2, 2, 45);
        x.pair(0, 5, 0);
        x.loss(6);
        due.hasSlope(x, 0, 4, 5 + 2, 2, 45);
        x.pair(0, 6, 0);
        x.loss(7);
        due.hasSlope(x, 0, 5, 5 + 3, 2, 45);
        x.pair(0, 7, 1);
        x.loss(8);
        due.hasSlope(x, 1, 1, 1, 0, 1);
        due.hasSlope(x, 0, 7, 16 + 3, 3, 45);
    }

    private static void stepAndStopHaveNone(Due due) {
        due.about("step, stop and indices have no slope, nor what is used only in such, or not at all");
        MeasuredTensors x = new MeasuredTensors();
        x.made(true, 0, 0, 0, 0, 0);
        x.made(true, 0, 0, 0, 0, 0);
        x.call(3, 1, 0, 0, 0, 0, 0);
        x.call(4, 1, 1, 0, 0, 0, 0);
        x.pair(2, 2, 3);
        x.made(true, 0, 0, 0, 0, 0);
        x.pair(2, 4, 5);
        x.loss(6);
        due.hasSlope(x, 5, 1, 1 + 16, 0, 1);
        due.hasSlope(x, 4, 1, 1 + 15, 0, 1);
        due.hasNoSlope(x, 3);
        due.hasNoSlope(x, 2);
        due.hasNoSlope(x, 1);
        due.hasNoSlope(x, 0);
        x.pair(0, 6, 1);
        x.loss(7);
        due.hasSlope(x, 1, 1, 1, 0, 1);
        due.hasNoSlope(x, 3);
        // The loss has its one use for being it, whatever made it; its argument is used only in a step.
        x.loss(2);
        due.hasSlope(x, 2, 1, 1, 0, 1);
        due.hasNoSlope(x, 0);
        x.loss(3);
        due.hasSlope(x, 3, 1, 1, 0, 1);
        due.hasNoSlope(x, 1);
    }

    private static void isFullOfLimbs(Due due) {
        due.about("or LIMBS are above 200000: then there is no loss");
        MeasuredTensors x = new MeasuredTensors();
        x.made(false, 2, 4096, 16, 0, 0);
        x.made(false, 1, 1128, 0, 0, 0);
        x.number(0, 1);
        x.number(1, 1);
        due.is("200000 limbs", 200000, x.loss(3));
        due.is("all(3)", 3, x.all(3));
        x.number(0, 1);
        due.is("200002 limbs", FULL, x.loss(3));
        due.holds(x, 5, 0, 65536 + 1128 + 3, NONE);
        due.hasNoSlope(x, 3);
        due.hasMeasure(x, 3, 1, 1, 0, 1);
    }

    /** A slope's e and q never go beyond the loss's own, so that only r can. */
    private static void isFullOfRange(Due due) {
        due.about("FULL when some slope's measure, or the least common multiple of q of all params' slopes, is "
                + "beyond its bounds");
        MeasuredTensors x = new MeasuredTensors();
        x.number(0, 1);
        x.number(0, 1);
        int wide = 1;
        for (int k = 0; k < 129; k++) {
            wide = x.over(wide, 1, Integer.MAX_VALUE);
        }
        int product = x.pair(2, 0, wide);
        due.is("r of the product", 3999, x.told(product, 7));
        due.is("loss(product) is not FULL", 1, x.loss(product) > 0 ? 1 : 0);
        due.hasSlope(x, 0, 1, 4000, 0, 1);
        due.hasSlope(x, 1, 1, 4000, 0, 1);
        int both = x.pair(2, product, product);
        due.is("r 7998", FULL, both);
        int twice = x.over(product, 1, 1);
        due.is("r of it", 4000, x.told(twice, 7));
        due.is("loss with a slope of r 4001", FULL, x.loss(twice));
        due.is("all(3)", NONE, x.all(3));
        due.hasNoSlope(x, 0);
        due.hasNoSlope(x, twice);
        due.hasNoSlope(x, product);
        due.is("loss(product) again", 1, x.loss(product) > 0 ? 1 : 0);
        due.hasSlope(x, 0, 1, 4000, 0, 1);
        int sum = x.pair(2, wide, x.number(0, 1));
        due.is("loss(sum)", 1, x.loss(sum) > 0 ? 1 : 0);
        due.hasNoSlope(x, 0);
    }

    private static void refuses(Due due) {
        due.about("IndexOutOfBoundsException: there is no such tensor; IllegalArgumentException: it has sides");
        MeasuredTensors x = new MeasuredTensors();
        x.number(1, 1);
        x.made(false, 1, 1, 0, 0, 0);
        x.made(false, 4, 1, 1, 1, 1);
        x.loss(0);
        due.isIllegal("loss of [1]", () -> x.loss(1));
        due.isIllegal("loss of [1, 1, 1, 1]", () -> x.loss(2));
        for (int t : new int[] {3, -1, Integer.MIN_VALUE, Integer.MAX_VALUE}) {
            due.isOutOfBounds("loss(" + t + ")", () -> x.loss(t));
        }
        due.holds(x, 3, 0, 3, 0);
        due.hasSlope(x, 0, 1, 1, 0, 1);
    }
}
