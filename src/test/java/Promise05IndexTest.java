/** Promise 5: index. */
final class Promise05IndexTest {
    public static void main(String[] args) {
        Due due = new Due("Promise 5");
        numbersThemApart(due);
        refuses(due);
        cellsAndBelowMatter(due);
        due.end();
    }

    private static void numbersThemApart(Due due) {
        due.about("An index likewise: its number. they are numbered apart");
        MeasuredTensors x = new MeasuredTensors();
        due.is("index [] below 1", 0, x.index(0, 0, 0, 0, 0, 1));
        due.is("made", 0, x.made(false, 0, 0, 0, 0, 0));
        due.is("index [4096] below 65536", 1, x.index(1, 4096, -1, -1, -1, 65536));
        due.is("index [64, 64]", 2, x.index(2, 64, 64, 0, 0, 7));
        due.is("index [8, 8, 8, 8]", 3, x.index(4, 8, 8, 8, 8, 7));
        due.is("number", 1, x.number(1, 1));
        due.holds(x, 2, 4, 2, MeasuredTensors.NONE);
    }

    private static void refuses(Due due) {
        due.about("IllegalArgumentException: as for made, or below is not 1 .. 65536; UnsupportedOperationException: "
                + "it would have more than 4096 cells, or there are 1000");
        MeasuredTensors x = new MeasuredTensors();
        int[][] illegal = {
            // sides, a, b, c, d, below
            {-1, 1, 1, 1, 1, 1}, {5, 1, 1, 1, 1, 1}, {1, 0, 1, 1, 1, 1}, {1, 4097, 1, 1, 1, 1}, {2, 1, 0, 1, 1, 1},
            {3, 1, 1, -1, 1, 1}, {4, 1, 1, 1, 4097, 1}, {0, 1, 1, 1, 1, 0}, {0, 1, 1, 1, 1, -1},
            {0, 1, 1, 1, 1, 65537}, {1, 3, 1, 1, 1, Integer.MIN_VALUE}, {1, 3, 1, 1, 1, Integer.MAX_VALUE},
            {2, 4096, 4096, 1, 1, 0},
        };
        for (int[] k : illegal) {
            due.isIllegal("index of " + k[0] + " sides below " + k[5],
                    () -> x.index(k[0], k[1], k[2], k[3], k[4], k[5]));
        }
        int[][] large = {{2, 4096, 2, 1, 1, 1}, {2, 17, 241, 1, 1, 3}, {4, 4096, 4096, 4096, 4096, 65536},
            {4, 8, 8, 8, 9, 5}};
        for (int[] k : large) {
            due.isThrown("index of too many cells", UnsupportedOperationException.class,
                    () -> x.index(k[0], k[1], k[2], k[3], k[4], k[5]));
        }
        due.holds(x, 0, 0, 0, MeasuredTensors.NONE);
    }

    private static void cellsAndBelowMatter(Due due) {
        due.about("INDICES have a shape of at most 4096 cells, and a number that what they tell is BELOW, 1 .. 65536");
        MeasuredTensors x = new MeasuredTensors();
        x.made(true, 2, 5, 3, 0, 0);
        x.index(1, 4, 0, 0, 0, 5);
        x.index(1, 4, 0, 0, 0, 6);
        due.is("pick of rows below 5 of 5", 1, x.call(16, 2, 0, -1, 0, 0, 0));
        due.is("pick of rows below 6 of 5", MeasuredTensors.WRONG, x.call(16, 2, 0, -2, 0, 0, 0));
    }
}
