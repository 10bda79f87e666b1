/** What an object answers behind its 512th call is free, but it must go on without the machine's own exceptions. */
final class EndlessUseTest {
    public static void main(String[] args) {
        Due due = new Due("Endless use");
        MeasuredTensors x = new MeasuredTensors();
        int fine = 0;
        int total = 0;
        for (int k = 0; k < 4200; k++) {
            total += 3;
            fine += goesOn(() -> x.number(1, 1));
            fine += goesOn(() -> x.index(0, 0, 0, 0, 0, 1));
            fine += goesOn(() -> x.pair(0, 0, x.all(0) - 1));
        }
        for (int k = 0; k < 4200; k++) {
            int t = k;
            total += 3;
            fine += goesOn(() -> x.told(t, t % 12));
            fine += goesOn(() -> x.divisor(t, true));
            fine += goesOn(() -> x.call(17, 2, t, -1 - t, 0, 0, 0));
        }
        total++;
        fine += goesOn(() -> x.loss(x.all(0) - 1));
        due.is("calls that answer or throw what the document names", total, fine);
        due.end();
    }

    private static int goesOn(Due.Answer answer) {
        try {
            answer.get();
            return 1;
        } catch (RuntimeException e) {
            Class<?> thrown = e.getClass();
            return thrown == IllegalArgumentException.class || thrown == IndexOutOfBoundsException.class
                    || thrown == UnsupportedOperationException.class ? 1 : 0;
        }
    }
}
