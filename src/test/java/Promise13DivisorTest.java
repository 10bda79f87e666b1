/** Promise 13: divisor. */
final class Promise13DivisorTest {
    public static void main(String[] args) {
        Due due = new Due("Promise 13");
        due.about("The divisor of a tensor, or of its slope (NONE without one)");
        MeasuredTensors x = new MeasuredTensors();
        x.number(1, 7);
        x.over(0, 9, 4);
        x.over(1, Integer.MAX_VALUE, 1);
        x.number(1, 1);
        long[] divisors = {7, 63, 63L * Integer.MAX_VALUE, 1};
        long[] slopes = {9L * Integer.MAX_VALUE, Integer.MAX_VALUE, 1, MeasuredTensors.NONE};
        for (int t = 0; t < 4; t++) {
            due.is("divisor(" + t + ", false)", divisors[t], x.divisor(t, false));
            due.is("divisor(" + t + ", true) without a loss", MeasuredTensors.NONE, x.divisor(t, true));
        }
        x.loss(2);
        for (int t = 0; t < 4; t++) {
            due.is("divisor(" + t + ", false)", divisors[t], x.divisor(t, false));
            due.is("divisor(" + t + ", true)", slopes[t], x.divisor(t, true));
        }
        due.about("IndexOutOfBoundsException: there is no such tensor");
        for (int t : new int[] {-1, 4, Integer.MIN_VALUE, Integer.MAX_VALUE}) {
            due.isOutOfBounds("divisor(" + t + ", false)", () -> x.divisor(t, false));
            due.isOutOfBounds("divisor(" + t + ", true)", () -> x.divisor(t, true));
        }
        due.end();
    }
}
