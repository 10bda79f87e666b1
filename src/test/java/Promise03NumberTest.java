/** Promise 3: number. */
final class Promise03NumberTest {
    private static final int MOST = Integer.MAX_VALUE;

    public static void main(String[] args) {
        Due due = new Due("Promise 3");
        measures(due);
        refuses(due);
        isFullBeyondWork(due);
        due.end();
    }

    private static void measures(Due due) {
        due.about("A number u / l. number, or fraction, u / l in least terms: the least r with u below 2^r; e as "
                + "often as 2 divides l, q what remains of l");
        MeasuredTensors x = new MeasuredTensors();
        int[][] rows = {
            // u, l, r, e, q
            {0, 1, 0, 0, 1}, {1, 1, 1, 0, 1}, {2, 1, 2, 0, 1}, {3, 1, 2, 0, 1}, {4, 1, 3, 0, 1}, {1, 2, 1, 1, 1},
            {1, 3, 1, 0, 3}, {3, 8, 2, 3, 1}, {5, 12, 3, 2, 3}, {7, 360, 3, 3, 45}, {1023, 1, 10, 0, 1},
            {1024, 1, 11, 0, 1}, {MOST, 1, 31, 0, 1}, {1 << 30, 1, 31, 0, 1}, {1, 1 << 30, 1, 30, 1},
            {1, MOST, 1, 0, MOST}, {MOST - 1, MOST, 31, 0, MOST}, {MOST, MOST - 1, 31, 1, (MOST - 1) / 2},
        };
        for (int k = 0; k < rows.length; k++) {
            due.is("number(" + rows[k][0] + ", " + rows[k][1] + ")", k, x.number(rows[k][0], rows[k][1]));
            due.hasShape(x, k);
            due.hasMeasure(x, k, 1, rows[k][2], rows[k][3], rows[k][4]);
            due.hasNoSlope(x, k);
        }
        due.holds(x, rows.length, 0, rows.length, MeasuredTensors.NONE);
    }

    private static void refuses(Due due) {
        due.about("IllegalArgumentException: u is below 0, or l below 1, or they are not in least terms");
        MeasuredTensors x = new MeasuredTensors();
        int[][] rows = {
            {-1, 1}, {1, 0}, {1, -1}, {-1, -1}, {2, 4}, {0, 2}, {0, 0}, {6, 9}, {0, MOST}, {MOST, MOST},
            {Integer.MIN_VALUE, 1}, {1, Integer.MIN_VALUE}, {Integer.MIN_VALUE, Integer.MIN_VALUE},
        };
        for (int[] row : rows) {
            due.isIllegal("number(" + row[0] + ", " + row[1] + ")", () -> x.number(row[0], row[1]));
        }
        due.holds(x, 0, 0, 0, MeasuredTensors.NONE);
    }

    private static void isFullBeyondWork(Due due) {
        due.about("A call answers the new tensor's number; FULL: too much: WORK beyond 1000000");
        MeasuredTensors x = new MeasuredTensors();
        for (int k = 0; k < 15; k++) {
            x.made(false, 2, 4096, 16, 0, 0);
        }
        x.made(false, 2, 4096, 4, 0, 0);
        x.made(false, 1, 575, 0, 0, 0);
        due.is("number(1, 2) up to work 1000000", 17, x.number(1, 2));
        due.holds(x, 18, 0, 1000000, MeasuredTensors.NONE);
        due.is("number(1, 2) beyond", MeasuredTensors.FULL, x.number(1, 2));
        due.isIllegal("number(2, 2)", () -> x.number(2, 2));
        due.holds(x, 18, 0, 1000000, MeasuredTensors.NONE);
    }
}
