import java.util.List;

/**
 * "No tensors, no indices, no loss; p is 0" of each new object, "All tensors, indices and the loss go" of each
 * beginning: the same calls answer the same, on another object, beside another object, and behind any past.
 */
final class SameAnswersTest {
    /** One call or two of each method and of each form, some of them refused. */
    private static final List<Edge.Call> CALLS = List.of(
            x -> x.all(0), x -> x.all(1), x -> x.all(2), x -> x.all(3), x -> x.told(0, 0), x -> x.loss(0),
            x -> Ask.param(x, 2, 3), x -> Ask.input(x, 3), x -> x.number(5, 12), x -> Ask.index(x, 2, 4),
            x -> Ask.index(x, 3), x -> x.pair(3, 0, 1), x -> x.pair(0, 0, 1), x -> x.pair(1, 2, 0),
            x -> x.pair(2, 4, 5), x -> x.pair(3, 1, 0), x -> x.turned(6), x -> x.over(7, 6, 5),
            x -> Ask.one(x, Ask.RELU, 8), x -> Ask.one(x, Ask.ABS, 9), x -> Ask.one(x, Ask.SQUARE, 10),
            x -> Ask.one(x, Ask.STEP, 10), x -> Ask.one(x, Ask.STOP, 10), x -> x.pair(2, 11, 12),
            x -> x.pair(0, 13, 14), x -> Ask.one(x, Ask.MEAN, 15, 0), x -> Ask.one(x, Ask.HIGH, 15, 1),
            x -> Ask.two(x, Ask.PICK, 15, -1), x -> Ask.two(x, Ask.HINGE, 16, -2), x -> Ask.one(x, Ask.TURN, 15),
            x -> Ask.one(x, Ask.PART, 20, 1, 3), x -> Ask.two(x, Ask.JOIN, 21, 21), x -> Ask.reshape(x, 22, 2, 2, 2),
            x -> Ask.one(x, Ask.PAD, 23, 1), x -> Ask.param(x, 3, 2, 2, 2), x -> Ask.two(x, Ask.CONV, 24, 25, 1),
            x -> Ask.one(x, Ask.POOL, 24, 2), x -> Ask.one(x, Ask.TOPS, 24, 4), x -> Ask.two(x, Ask.GAP, 24, 24),
            x -> Ask.one(x, Ask.SUM, 26), x -> x.pair(0, 30, 19), x -> x.pair(0, 29, 31), x -> x.loss(32),
            x -> x.told(0, 9), x -> x.told(0, 10), x -> x.told(0, 11), x -> x.divisor(0, true), x -> x.told(25, 10),
            x -> x.divisor(1, true), x -> x.told(4, 9), x -> x.told(32, 7), x -> x.told(32, 8),
            x -> x.divisor(32, false), x -> x.loss(33), x -> x.loss(0), x -> x.number(2, 4), x -> Ask.one(x, 11, 0),
            x -> x.over(0, 0, 1), x -> x.index(2, 4096, 2, 0, 0, 1), x -> x.all(0), x -> x.all(1), x -> x.all(2),
            x -> x.all(3));

    private final Due due = new Due("Same answers");

    public static void main(String[] args) {
        SameAnswersTest test = new SameAnswersTest();
        test.onAnotherObject();
        test.besideAnotherObject();
        test.behindABeginning();
        test.due.end();
    }

    private static String answer(MeasuredTensors x, Edge.Call call) {
        try {
            return call.on(x) + " ";
        } catch (RuntimeException e) {
            return e.getClass().getName() + " ";
        }
    }

    private static String play(MeasuredTensors x) {
        StringBuilder text = new StringBuilder();
        for (Edge.Call call : CALLS) {
            text.append(answer(x, call));
        }
        return text.toString();
    }

    private static int made(String answers) {
        MeasuredTensors x = new MeasuredTensors();
        return play(x).equals(answers) ? x.all(0) : -1;
    }

    private void onAnotherObject() {
        due.about("No tensors, no indices, no loss; p is 0");
        String answers = play(new MeasuredTensors());
        due.is("tensors that each play makes", 33, made(answers));
        for (int k = 0; k < 3; k++) {
            due.isSame("the answers of another object", answers, play(new MeasuredTensors()));
        }
    }

    private void besideAnotherObject() {
        due.about("No tensors, no indices, no loss; p is 0");
        String answers = play(new MeasuredTensors());
        MeasuredTensors one = new MeasuredTensors();
        MeasuredTensors other = new MeasuredTensors();
        StringBuilder ofOne = new StringBuilder();
        StringBuilder ofOther = new StringBuilder();
        // The other one goes a few calls behind.
        for (int k = 0; k < CALLS.size() + 5; k++) {
            if (k < CALLS.size()) {
                ofOne.append(answer(one, CALLS.get(k)));
            }
            if (k >= 5) {
                ofOther.append(answer(other, CALLS.get(k - 5)));
            }
        }
        due.isSame("the answers of the one", answers, ofOne.toString());
        due.isSame("the answers of the other", answers, ofOther.toString());
    }

    /** Behind the same calls, half of them, and a past in which each number belonged to another kind of tensor. */
    private void behindABeginning() {
        due.about("All tensors, indices and the loss go; p is told");
        for (int p : new int[] {0, 7, 64}) {
            MeasuredTensors fresh = new MeasuredTensors();
            fresh.begin(p);
            String answers = play(fresh);
            MeasuredTensors x = new MeasuredTensors();
            play(x);
            x.begin(p);
            due.isSame("behind the same calls", answers, play(x));
            x.begin(64 - p);
            for (int k = 0; k < 20; k++) {
                Ask.param(x, 4, 4);
                Ask.one(x, Ask.STOP, 2 * k);
                Ask.index(x, 65536, 4, 4);
            }
            x.loss(Ask.one(x, Ask.SUM, 0));
            x.begin(p);
            due.isSame("behind other calls", answers, play(x));
            x.begin(p);
            for (int k = 0; k < CALLS.size() / 2; k++) {
                answer(x, CALLS.get(k));
            }
            x.begin(p);
            due.isSame("behind half of the calls", answers, play(x));
        }
    }
}
