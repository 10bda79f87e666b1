/** Promise 8: over. */
final class Promise08OverTest {
    private static final int MOST = Integer.MAX_VALUE;

    public static void main(String[] args) {
        Due due = new Due("Promise 8");
        divides(due);
        isFull(due);
        refuses(due);
        due.end();
    }

    private static void divides(Due due) {
        due.about("a divided by u / l. a / f, f = u / l: as a * (l / u)");
        MeasuredTensors x = new MeasuredTensors();
        x.begin(5);
        x.made(true, 2, 2, 3, 0, 0);
        int[][] rows = {
            // u, l, r, e, q
            {1, 1, 16, 5, 1}, {3, 4, 18, 5, 3}, {2, 1, 16, 6, 1}, {12, 7, 18, 7, 3}, {40, 9, 19, 8, 5},
            {1, MOST, 46, 5, 1}, {MOST, 1, 16, 5, MOST}, {1 << 30, 1, 16, 35, 1}, {1, 1 << 30, 46, 5, 1},
        };
        for (int k = 0; k < rows.length; k++) {
            int[] row = rows[k];
            due.is("over(0, " + row[0] + ", " + row[1] + ")", k + 1, x.over(0, row[0], row[1]));
            due.hasShape(x, k + 1, 2, 3);
            due.hasMeasure(x, k + 1, 1, row[2], row[3], row[4]);
        }
        due.holds(x, 10, 0, 60, MeasuredTensors.NONE);
        x.call(5, 1, 5, 0, 0, 0, 0);
        x.over(10, 3, 8);
        x.loss(11);
        due.hasSlope(x, 10, 1, 1 + 4, 0, 3);
        due.hasSlope(x, 5, 1, 5, 0, 3);
        due.hasSlope(x, 0, 1, 5 + 4, 3, 15);
    }

    private static void isFull(Due due) {
        due.about("its bounds: r and e at most 4000, q below 2^62");
        MeasuredTensors x = new MeasuredTensors();
        x.number(1, 1);
        x.over(0, MOST, 1);
        due.is("q of (2^31 - 1)^2", 2, x.over(1, MOST, 1));
        due.hasMeasure(x, 2, 1, 3, 0, 4611686014132420609L);
        due.is("q beyond 2^62", MeasuredTensors.FULL, x.over(2, 3, 1));
        due.is("q below 2^62", 3, x.over(2, 2, 1));
        x.number(1, MOST);
        x.over(4, 715827883, 1);
        due.is("q of 2^62 - 1", 6, x.over(5, 3, 1));
        due.hasMeasure(x, 6, 1, 3, 0, (1L << 62) - 1);
        x.number(1, 2147418113);
        x.over(7, 429509837, 1);
        due.is("q of 2^62 + 1", MeasuredTensors.FULL, x.over(8, 5, 1));
        x.begin(0);
        x.number(0, 1);
        for (int k = 0; k < 129; k++) {
            x.over(k, 1, MOST);
        }
        due.hasMeasure(x, 129, 1, 3999, 0, 1);
        due.is("r 4000", 130, x.over(129, 1, 1));
        due.is("r 4001", MeasuredTensors.FULL, x.over(130, 1, 1));
        due.holds(x, 131, 0, 131, MeasuredTensors.NONE);
    }

    private static void refuses(Due due) {
        due.about("IndexOutOfBoundsException: there is no such tensor; IllegalArgumentException: u or l is below 1, "
                + "or they are not in least terms");
        MeasuredTensors x = new MeasuredTensors();
        x.number(1, 1);
        int[][] rows = {{0, 1}, {1, 0}, {-1, 1}, {1, -1}, {0, 0}, {2, 4}, {9, 6}, {MOST, MOST},
            {Integer.MIN_VALUE, 1}, {1, Integer.MIN_VALUE}};
        for (int[] row : rows) {
            due.isIllegal("over(0, " + row[0] + ", " + row[1] + ")", () -> x.over(0, row[0], row[1]));
            due.isOutOfBounds("over(1, ..)", () -> x.over(1, row[0], row[1]));
        }
        due.isOutOfBounds("over(-1, 1, 1)", () -> x.over(-1, 1, 1));
        due.isOutOfBounds("over(1, 1, 1)", () -> x.over(1, 1, 1));
        due.holds(x, 1, 0, 1, MeasuredTensors.NONE);
    }
}
