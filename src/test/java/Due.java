/** Counts answers that are not the ones that are due, and ends the test accordingly. */
final class Due {
    interface Answer {
        long get();
    }

    private final String test;
    private String sentence = "";
    private int checked = 0;
    private int wrong = 0;

    Due(String test) {
        this.test = test;
    }

    /** The document's sentence that the next answers are due to; it is told with each that is not as due. */
    void about(String words) {
        sentence = words.isEmpty() ? "" : " [" + words + "]";
    }

    void is(String call, long want, long got) {
        checked++;
        if (want != got) {
            tell(call + " answered " + got + ", due is " + want);
        }
    }

    void isSame(String what, String want, String got) {
        checked++;
        if (!want.equals(got)) {
            tell(what + " is\n    " + got + "\n  due is\n    " + want);
        }
    }

    private void tell(String difference) {
        wrong++;
        System.out.println(test + sentence + ": " + difference);
    }

    /** Exactly this class: a subclass would be the machine's own exception. */
    void isThrown(String call, Class<? extends RuntimeException> want, Answer answer) {
        checked++;
        String got;
        try {
            got = "answered " + answer.get();
        } catch (RuntimeException e) {
            if (e.getClass() == want) {
                return;
            }
            got = "threw " + e.getClass().getName();
        }
        tell(call + " " + got + ", due is " + want.getName());
    }

    void isOutOfBounds(String call, Answer answer) {
        isThrown(call, IndexOutOfBoundsException.class, answer);
    }

    void isIllegal(String call, Answer answer) {
        isThrown(call, IllegalArgumentException.class, answer);
    }

    /** Sides 0 .. 4 of a tensor: how many, and those that are not there are 1. */
    void hasShape(MeasuredTensors x, int t, int... sides) {
        is("told(" + t + ", 0)", sides.length, x.told(t, 0));
        long cells = 1;
        for (int k = 0; k < 4; k++) {
            int side = k < sides.length ? sides[k] : 1;
            cells *= side;
            is("told(" + t + ", " + (k + 1) + ")", side, x.told(t, k + 1));
        }
        is("told(" + t + ", 5)", cells, x.told(t, 5));
    }

    void hasMeasure(MeasuredTensors x, int t, int terms, int r, int e, long q) {
        is("told(" + t + ", 6)", terms, x.told(t, 6));
        is("told(" + t + ", 7)", r, x.told(t, 7));
        is("told(" + t + ", 8)", e, x.told(t, 8));
        is("divisor(" + t + ", false)", q, x.divisor(t, false));
    }

    void hasSlope(MeasuredTensors x, int t, int uses, int r, int e, long q) {
        is("told(" + t + ", 9)", uses, x.told(t, 9));
        is("told(" + t + ", 10)", r, x.told(t, 10));
        is("told(" + t + ", 11)", e, x.told(t, 11));
        is("divisor(" + t + ", true)", q, x.divisor(t, true));
    }

    void hasNoSlope(MeasuredTensors x, int t) {
        hasSlope(x, t, 0, MeasuredTensors.NONE, MeasuredTensors.NONE, MeasuredTensors.NONE);
    }

    /** How many tensors and indices there are, the work and the loss. */
    void holds(MeasuredTensors x, int tensors, int indices, int work, int loss) {
        is("all(0)", tensors, x.all(0));
        is("all(1)", indices, x.all(1));
        is("all(2)", work, x.all(2));
        is("all(3)", loss, x.all(3));
    }

    void end() {
        if (checked == 0) {
            System.out.println(test + ": nothing was checked");
            wrong++;
        }
        System.out.println(test + ": " + checked + " answers, " + wrong + " not as due");
        if (wrong != 0) {
            System.exit(1);
        }
    }
}
