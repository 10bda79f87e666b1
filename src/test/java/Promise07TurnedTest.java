/** Promise 7: turned. */
final class Promise07TurnedTest {
    public static void main(String[] args) {
        Due due = new Due("Promise 7");
        due.about("-a. Terms 1; 1");
        MeasuredTensors x = new MeasuredTensors();
        x.begin(3);
        x.made(true, 3, 2, 3, 4, 0);
        due.is("turned(0)", 1, x.turned(0));
        due.hasShape(x, 1, 2, 3, 4);
        due.hasMeasure(x, 1, 1, 15, 3, 1);
        x.number(3, 20);
        due.is("turned(2)", 3, x.turned(2));
        due.hasShape(x, 3);
        due.hasMeasure(x, 3, 1, 2, 2, 5);
        due.holds(x, 4, 0, 50, MeasuredTensors.NONE);
        x.loss(3);
        due.hasSlope(x, 2, 1, 1, 0, 1);
        due.hasNoSlope(x, 1);

        due.about("IndexOutOfBoundsException: there is no such tensor");
        due.isOutOfBounds("turned(4)", () -> x.turned(4));
        due.isOutOfBounds("turned(-1)", () -> x.turned(-1));
        due.isOutOfBounds("turned(least)", () -> x.turned(Integer.MIN_VALUE));
        due.isOutOfBounds("turned(most)", () -> x.turned(Integer.MAX_VALUE));
        due.holds(x, 4, 0, 50, 3);

        due.about("FULL: too much: WORK beyond 1000000");
        x.begin(0);
        x.made(false, 2, 4096, 16, 0, 0);
        for (int k = 0; k < 14; k++) {
            due.is("turned(0)", k + 1, x.turned(0));
        }
        due.is("turned(0) beyond the work", MeasuredTensors.FULL, x.turned(0));
        due.holds(x, 15, 0, 15 * 65536, MeasuredTensors.NONE);
        due.end();
    }
}
