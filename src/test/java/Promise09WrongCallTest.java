/** Promise 9: calls that are WRONG, or throw. */
final class Promise09WrongCallTest {
    private static final int WRONG = MeasuredTensors.WRONG;
    private static final int MOST = Integer.MAX_VALUE, LEAST = Integer.MIN_VALUE;
    private static final int[] CALLS = {0, 1, 2, 3, 4, 5, 6, 7, 8, 9, 10, 12, 13, 14, 15, 16, 17, 18};

    public static void main(String[] args) {
        Due due = new Due("Promise 9, wrong calls");
        wrongCounts(due);
        wrongKinds(due);
        wrongShapes(due);
        wrongBeforeFull(due);
        refuses(due);
        due.end();
    }

    /** 0 .. 4: tensors with so many sides of 2; indices 0 [] and 1 [2], both below 2. */
    private static MeasuredTensors withAllSides() {
        MeasuredTensors x = new MeasuredTensors();
        for (int sides = 0; sides <= 4; sides++) {
            x.made(false, sides, 2, 2, 2, 2);
        }
        x.index(0, 0, 0, 0, 0, 2);
        x.index(1, 2, 0, 0, 0, 2);
        return x;
    }

    private static void isWrong(Due due, MeasuredTensors x, int what, int n, int a, int b, int m, int... numbers) {
        int before = x.all(0);
        int work = x.all(2);
        String call = "call(" + what + ", " + n + ", " + a + ", " + b + ", " + m + ", ..)";
        due.is(call, WRONG, x.call(what, n, a, b, m, numbers.length > 0 ? numbers[0] : 1,
                numbers.length > 1 ? numbers[1] : 2));
        due.is("all(0) behind " + call, before, x.all(0));
        due.is("all(2) behind " + call, work, x.all(2));
    }

    private static int argumentsOf(int what) {
        return what == 8 || what == 14 || what >= 16 ? 2 : 1;
    }

    private static boolean takes(int what, int m) {
        switch (what) {
            case 5: case 6:
                return m <= 1;
            case 7: case 8: case 9: case 10: case 15:
                return m == 1;
            case 13:
                return m == 2;
            default:
                return m == 0;
        }
    }

    private static void wrongCounts(Due due) {
        due.about("WRONG: how many arguments and whole numbers there are are not as they must be");
        for (int what : CALLS) {
            MeasuredTensors x = withAllSides();
            for (int n = 0; n <= 2; n++) {
                for (int m = 0; m <= 2; m++) {
                    if (n != argumentsOf(what) || !takes(what, m)) {
                        isWrong(due, x, what, n, 3, 3, m);
                        isWrong(due, x, what, n, 1, -1, m);
                    }
                }
            }
        }
    }

    private static void wrongKinds(Due due) {
        due.about("WRONG: what they are is not as it must be");
        for (int what : CALLS) {
            MeasuredTensors x = withAllSides();
            int m = takes(what, 2) ? 2 : takes(what, 1) ? 1 : 0;
            for (int b = -2; b <= 4; b++) {
                isWrong(due, x, what, argumentsOf(what), -1, b, m);
                isWrong(due, x, what, argumentsOf(what), -2, b, m);
            }
        }
        for (int a = 0; a <= 4; a++) {
            MeasuredTensors x = withAllSides();
            isWrong(due, x, 5, 1, -1, 0, 0);
            isWrong(due, x, 6, 1, -2, 0, 0);
            isWrong(due, x, 8, 2, a, -2, 1);
            isWrong(due, x, 14, 2, a, -1, 0);
            isWrong(due, x, 18, 2, a, -1, 0);
            for (int b = 0; b <= 4; b++) {
                isWrong(due, x, 16, 2, a, b, 0);
                isWrong(due, x, 17, 2, a, b, 0);
            }
        }
    }

    private static void wrongShapes(Due due) {
        due.about("WRONG: shapes, or the whole numbers, are not as they must be");
        for (int a = 0; a <= 4; a++) {
            MeasuredTensors x = withAllSides();
            for (int what = 5; what <= 7; what++) {
                isWrong(due, x, what, 1, a, 0, 1, a);
                isWrong(due, x, what, 1, a, 0, 1, a + 1);
                isWrong(due, x, what, 1, a, 0, 1, MOST);
            }
            for (int b = 0; b <= 4; b++) {
                if (a != 3 || b != 4) {
                    isWrong(due, x, 8, 2, a, b, 1, 1);
                }
                if (a != b) {
                    isWrong(due, x, 14, 2, a, b, 0);
                    isWrong(due, x, 18, 2, a, b, 0);
                }
            }
            if (a != 3) {
                isWrong(due, x, 9, 1, a, 0, 1, 1);
                isWrong(due, x, 10, 1, a, 0, 1, 1);
                isWrong(due, x, 15, 1, a, 0, 1, 1);
            }
            if (a != 2) {
                isWrong(due, x, 12, 1, a, 0, 0);
                isWrong(due, x, 16, 2, a, -2, 0);
            }
            if (a != 1) {
                isWrong(due, x, 17, 2, a, -1, 0);
            }
            isWrong(due, x, 16, 2, a, -1, 0);
            isWrong(due, x, 17, 2, a, -2, 0);
            isWrong(due, x, 13, 1, a, 0, 2, 1, 1);
            isWrong(due, x, 13, 1, a, 0, 2, 2, 1);
            isWrong(due, x, 13, 1, a, 0, 2, 0, 3);
            isWrong(due, x, 13, 1, a, 0, 2, 0, 0);
            isWrong(due, x, 13, 1, a, 0, 2, MOST, MOST);
            isWrong(due, x, 13, 1, a, 0, 2, 0, MOST);
        }
        wrongWindows(due);
        wrongSides(due);
    }

    private static void wrongWindows(Due due) {
        due.about("WRONG: shapes, or the whole numbers, are not as they must be");
        MeasuredTensors x = withAllSides();
        isWrong(due, x, 13, 1, 0, 0, 2, 0, 1);
        isWrong(due, x, 14, 2, 0, 0, 0);
        for (int s : new int[] {0, 17, MOST}) {
            isWrong(due, x, 8, 2, 3, 4, 1, s);
            isWrong(due, x, 15, 1, 3, 0, 1, s);
        }
        for (int p : new int[] {0, 3, 4, MOST}) {
            isWrong(due, x, 9, 1, 3, 0, 1, p);
            isWrong(due, x, 10, 1, 3, 0, 1, p);
        }
        int wide = x.made(false, 3, 2, 6, 4, 0);
        int high = x.made(false, 3, 2, 4, 6, 0);
        for (int what = 9; what <= 10; what++) {
            isWrong(due, x, what, 1, wide, 0, 1, 3);
            isWrong(due, x, what, 1, high, 0, 1, 3);
            isWrong(due, x, what, 1, wide, 0, 1, 4);
        }
    }

    private static void wrongSides(Due due) {
        due.about("WRONG: shapes are not as they must be");
        MeasuredTensors x = new MeasuredTensors();
        x.made(false, 3, 2, 4, 5, 0);
        x.made(true, 4, 1, 3, 2, 2);
        x.made(true, 4, 1, 2, 5, 1);
        x.made(true, 4, 1, 2, 1, 6);
        for (int f = 1; f <= 3; f++) {
            isWrong(due, x, 8, 2, 0, f, 1, 1);
        }
        int[][] others = {{2, 3, 5}, {2, 4, 4}, {3, 4, 5}};
        for (int[] other : others) {
            int t = x.made(false, 3, other[0], other[1], other[2], 0);
            isWrong(due, x, 18, 2, 0, t, 0);
            if (other[0] == 2) {
                isWrong(due, x, 14, 2, 0, t, 0);
            }
        }
        int a = x.made(false, 4, 1, 2, 3, 4);
        int b = x.made(false, 4, 1, 2, 3, 5);
        isWrong(due, x, 14, 2, a, b, 0);
        isWrong(due, x, 18, 2, a, b, 0);
        int table = x.made(true, 2, 4, 3, 0, 0);
        int row = x.made(true, 1, 4, 0, 0, 0);
        x.index(1, 2, 0, 0, 0, 5);
        x.index(0, 0, 0, 0, 0, 5);
        x.index(2, 2, 1, 0, 0, 2);
        x.index(1, 1, 0, 0, 0, 2);
        isWrong(due, x, 16, 2, table, -1, 0);
        isWrong(due, x, 16, 2, table, -3, 0);
        isWrong(due, x, 17, 2, row, -2, 0);
        isWrong(due, x, 17, 2, row, -4, 0);
    }

    private static void wrongBeforeFull(Due due) {
        due.about("WRONG before FULL");
        MeasuredTensors x = new MeasuredTensors();
        for (int k = 0; k < 15; k++) {
            x.made(false, 2, 4096, 16, 0, 0);
        }
        due.is("turn, FULL", MeasuredTensors.FULL, x.call(12, 1, 0, 0, 0, 0, 0));
        isWrong(due, x, 12, 1, 0, 0, 1);
        isWrong(due, x, 7, 1, 0, 0, 1, 2);
        isWrong(due, x, 13, 1, 0, 0, 2, 0, 4097);
        due.is("join, FULL", MeasuredTensors.FULL, x.call(14, 2, 0, 0, 0, 0, 0));
        isWrong(due, x, 14, 2, 0, 0, 2);
        due.is("reshape, WRONG", WRONG, x.reshape(0, 1, 4096, 0, 0, 0));
        due.is("reshape, FULL", MeasuredTensors.FULL, x.reshape(0, 2, 16, 4096, 0, 0));
    }

    private static void refuses(Due due) {
        due.about("IllegalArgumentException: another what, n or m is not 0 .. 2, or one of its m whole numbers is "
                + "below 0; IndexOutOfBoundsException: one of its n arguments is not there");
        MeasuredTensors x = withAllSides();
        int[][] illegal = {
            // what, n, a, b, m, x, y
            {-1, 1, 0, 0, 0, 0, 0}, {11, 1, 0, 0, 0, 0, 0}, {19, 1, 0, 0, 0, 0, 0}, {LEAST, 1, 0, 0, 0, 0, 0},
            {MOST, 1, 0, 0, 0, 0, 0}, {0, -1, 0, 0, 0, 0, 0}, {0, 3, 0, 0, 0, 0, 0}, {0, 1, 0, 0, -1, 0, 0},
            {0, 1, 0, 0, 3, 0, 0}, {5, 1, 1, 0, 1, -1, 0}, {13, 1, 1, 0, 2, 0, -1}, {13, 1, 1, 0, 2, -1, 1},
            {0, 1, 0, 0, 1, -1, 0}, {0, 0, 0, 0, 2, 0, LEAST}, {11, 2, 99, 99, 0, 0, 0}, {0, 3, 99, 99, 0, 0, 0},
            {5, 1, 99, 0, 1, -1, 0}, {8, MOST, 0, 0, 0, 0, 0}, {8, LEAST, 0, 0, 0, 0, 0}, {8, 2, 0, 0, MOST, 0, 0},
        };
        for (int[] k : illegal) {
            due.isIllegal("call(" + k[0] + ", " + k[1] + ", .., " + k[4] + ", ..)",
                    () -> x.call(k[0], k[1], k[2], k[3], k[4], k[5], k[6]));
        }
        for (int what : CALLS) {
            int w = what;
            for (int missing : new int[] {5, -3, MOST, LEAST}) {
                int gone = missing;
                due.isOutOfBounds("call(" + w + ", 1, " + gone + ", ..)", () -> x.call(w, 1, gone, 0, 0, 0, 0));
                due.isOutOfBounds("call(" + w + ", 2, " + gone + ", ..)", () -> x.call(w, 2, gone, 0, 1, 1, 0));
                due.isOutOfBounds("call(" + w + ", 2, 0, " + gone + ")", () -> x.call(w, 2, 0, gone, 2, 1, 1));
                due.is("call of none", WRONG, x.call(w, 0, gone, gone, 0, 0, 0));
            }
        }
        due.holds(x, 5, 2, 31, MeasuredTensors.NONE);
    }
}
