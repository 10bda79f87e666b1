/** Promise 1: no tensors, no indices, no loss; p is 0. */
final class Promise01NewObjectTest {
    public static void main(String[] args) {
        Due due = new Due("Promise 1");
        due.about("No tensors, no indices, no loss; p is 0");
        MeasuredTensors x = new MeasuredTensors();
        due.holds(x, 0, 0, 0, MeasuredTensors.NONE);
        due.isOutOfBounds("told(0, 0)", () -> x.told(0, 0));
        due.isOutOfBounds("call(0, 1, -1, ..)", () -> x.call(0, 1, -1, 0, 0, 0, 0));
        due.is("made(true, 0, ..)", 0, x.made(true, 0, 0, 0, 0, 0));
        due.hasMeasure(x, 0, 1, 15, 0, 1);

        MeasuredTensors other = new MeasuredTensors();
        due.holds(other, 0, 0, 0, MeasuredTensors.NONE);
        due.end();
    }
}
