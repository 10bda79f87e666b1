/** Where a number of doublings, of twos or of limbs changes: powers of two, and one below and above them. */
final class BoundaryRoundingTest {
    private static final int MOST = Integer.MAX_VALUE;

    private final Due due = new Due("Boundaries of rounding");

    public static void main(String[] args) {
        BoundaryRoundingTest test = new BoundaryRoundingTest();
        test.doublingsOfTerms();
        test.doublingsOfLargeTerms();
        test.doublingsOfProducts();
        test.rangeOfNumbers();
        test.placesOfNumbers();
        test.rangeOfDivisions();
        test.placesOfDivisions();
        test.limbs();
        test.doublingsOfUses();
        test.doublingsOfSpread();
        test.due.end();
    }

    /** The least k with 2^k not below n, by counting up. */
    private static int doublings(int n) {
        int k = 0;
        for (long power = 1; power < n; power *= 2) {
            k++;
        }
        return k;
    }

    /** "L(n) is the least k with 2^k not below n", n the terms of sums of 1 to 130 cells. */
    private void doublingsOfTerms() {
        due.about("L(n) is the least k with 2^k not below n");
        for (int n = 1; n <= 130; n++) {
            MeasuredTensors x = new MeasuredTensors();
            Ask.param(x, n);
            Ask.index(x, 1);
            int more = doublings(n);
            due.hasMeasure(x, Ask.one(x, Ask.SUM, 0), n, 15 + more, 0, 1);
            due.is("r of a mean of " + n, 15 + more + 1, x.told(Ask.one(x, Ask.MEAN, 0, 0), 7));
            due.hasMeasure(x, x.pair(3, 0, 0), n, 30 + more, 0, 1);
            due.hasMeasure(x, Ask.two(x, Ask.HINGE, 0, -1), n, 15 + 3 + more, 0, 1);
            due.hasMeasure(x, Ask.two(x, Ask.GAP, 0, 0), n, 2 * 16 + more + 1, 1, 1);
        }
    }

    /** The same with many terms, up to 65536. */
    private void doublingsOfLargeTerms() {
        due.about("L(n) is the least k with 2^k not below n");
        int[][] rows = {{255, 1}, {256, 1}, {257, 1}, {511, 1}, {512, 1}, {513, 1}, {1023, 1}, {1025, 1}, {2047, 1},
            {2048, 1}, {2049, 1}, {4095, 1}, {4096, 1}, {241, 17}, {4095, 2}, {4096, 2}, {2731, 3}, {4095, 4},
            {4096, 4}, {3277, 5}, {4095, 8}, {4096, 8}, {3641, 9}, {4095, 16}, {4096, 16}};
        for (int[] row : rows) {
            MeasuredTensors x = new MeasuredTensors();
            Ask.input(x, row);
            int cells = row[0] * row[1];
            due.hasMeasure(x, Ask.one(x, Ask.SUM, 0), cells, 16 + doublings(cells), 16, 1);
            due.hasMeasure(x, Ask.one(x, Ask.SUM, 0, 0), row[0], 16 + doublings(row[0]), 16, 1);
        }
    }

    /** "a * b, a @ b, conv: sum of r, and of L(terms)", with the terms c p q, and "pool: as sum", with p p. */
    private void doublingsOfProducts() {
        due.about("sum of r, and of L(terms)");
        int[][] windows = {{1, 1, 1}, {1, 1, 2}, {3, 1, 1}, {1, 2, 2}, {5, 1, 1}, {2, 2, 2}, {1, 3, 3}, {3, 5, 1},
            {1, 4, 4}, {17, 1, 1}, {4, 2, 4}, {3, 11, 1}};
        for (int[] k : windows) {
            MeasuredTensors x = new MeasuredTensors();
            Ask.param(x, k[0], 12, 12);
            Ask.param(x, 1, k[0], k[1], k[2]);
            int terms = k[0] * k[1] * k[2];
            due.hasMeasure(x, Ask.two(x, Ask.CONV, 0, 1, 1), terms, 30 + doublings(terms), 0, 1);
        }
        for (int p : new int[] {1, 2, 3, 4, 6, 12}) {
            MeasuredTensors x = new MeasuredTensors();
            Ask.param(x, 1, 12, 12);
            int pool = Ask.one(x, Ask.POOL, 0, p);
            due.is("r of a pool by " + p, 15 + doublings(p * p) + 1, x.told(pool, 7));
            due.is("terms of a pool by " + p, p * p, x.told(pool, 6));
        }
    }

    /** "number .. u / l in least terms: the least r with u below 2^r". */
    private void rangeOfNumbers() {
        due.about("the least r with u below 2^r");
        MeasuredTensors x = new MeasuredTensors();
        due.is("r of 0", 0, x.told(x.number(0, 1), 7));
        for (int k = 0; k <= 30; k++) {
            int power = 1 << k;
            due.is("r of 2^" + k, k + 1, x.told(x.number(power, 1), 7));
            due.is("r of 2^" + k + " - 1", k, x.told(x.number(power - 1, 1), 7));
        }
        due.is("r of 2^31 - 1", 31, x.told(x.number(MOST, 1), 7));
        due.is("r of 2^30 + 1", 31, x.told(x.number((1 << 30) + 1, 2), 7));
    }

    /** "e as often as 2 divides l, q what remains of l". */
    private void placesOfNumbers() {
        due.about("e as often as 2 divides l, q what remains of l");
        MeasuredTensors x = new MeasuredTensors();
        for (int k = 0; k <= 30; k++) {
            due.hasMeasure(x, x.number(1, 1 << k), 1, 1, k, 1);
        }
        for (int k = 0; k <= 29; k++) {
            due.hasMeasure(x, x.number(1, 3 << k), 1, 1, k, 3);
        }
        MeasuredTensors other = new MeasuredTensors();
        due.hasMeasure(other, other.number(5, MOST), 1, 3, 0, MOST);
        due.hasMeasure(other, other.number(5, MOST - 1), 1, 3, 1, MOST / 2);
        due.hasMeasure(other, other.number(5, MOST - 3), 1, 3, 2, 536870911);
    }

    /** "a / f, f = u / l: as a * (l / u)": the least r with l below 2^r comes to that of a. */
    private void rangeOfDivisions() {
        due.about("a / f, f = u / l: as a * (l / u)");
        MeasuredTensors x = new MeasuredTensors();
        Ask.param(x);
        due.is("r over 1", 16, x.told(x.over(0, 1, 1), 7));
        for (int k = 1; k <= 30; k++) {
            int power = 1 << k;
            due.is("r over 1 / 2^" + k, 15 + k + 1, x.told(x.over(0, 1, power), 7));
            due.is("r over 1 / (2^" + k + " - 1)", 15 + k, x.told(x.over(0, 1, power - 1), 7));
        }
        due.is("r over 1 / (2^31 - 1)", 15 + 31, x.told(x.over(0, 1, MOST), 7));
    }

    /** "a / f, f = u / l: as a * (l / u)": e and q are those of u. */
    private void placesOfDivisions() {
        due.about("a / f, f = u / l: as a * (l / u)");
        MeasuredTensors x = new MeasuredTensors();
        x.begin(2);
        Ask.param(x);
        for (int k = 0; k <= 30; k++) {
            due.hasMeasure(x, x.over(0, 1 << k, 1), 1, 16, 2 + k, 1);
        }
        for (int k = 0; k <= 29; k++) {
            due.hasMeasure(x, x.over(0, 3 << k, 5), 1, 18, 2 + k, 3);
        }
        MeasuredTensors other = new MeasuredTensors();
        Ask.param(other);
        due.hasMeasure(other, other.over(0, MOST, 1), 1, 16, 0, MOST);
        due.hasMeasure(other, other.over(0, MOST - 1, 1), 1, 16, 1, MOST / 2);
    }

    /** "its cells times ((r + e + 64) / 32 rounded up)": 0, 32 and 64 are still exact, one more is a limb more. */
    private void limbs() {
        due.about("((r + e + 64) / 32 rounded up)");
        for (int places = 0; places <= 64; places++) {
            MeasuredTensors x = new MeasuredTensors();
            x.begin(places);
            Ask.param(x, 5);
            x.number(0, 1);
            int each = 2 + (15 + places + 31) / 32;
            due.is("limbs with r 15, e " + places, 5 * each + 2 + 3, x.loss(1));
        }
        for (int k = 0; k <= 30; k++) {
            MeasuredTensors x = new MeasuredTensors();
            x.number(0, 1);
            x.number(1, 1 << k);
            due.is("limbs with r 1, e " + k, 5 + 3, x.loss(0));
            x.over(1, 1, 2);
            due.is("limbs with r 3, e " + k, 8 + (k == 30 ? 4 : 3), x.loss(0));
        }
        MeasuredTensors alone = new MeasuredTensors();
        alone.number(0, 1);
        due.is("limbs of r 0, e 0 and of the slope's r 1", 2 + 3, alone.loss(0));
        MeasuredTensors slopes = new MeasuredTensors();
        slopes.number(0, 1);
        slopes.number(MOST, 1);
        slopes.pair(2, 0, 1);
        // r 0, 31, 31; the slopes' r 1 + 31, 1 + 0, 1.
        due.is("limbs of a slope of r 32", 2 + 3 + 3 + 3 + 3 + 3, slopes.loss(2));
        slopes.over(2, 1, 1);
        due.is("limbs of a slope of r 33", 2 + 3 + 3 + 3 + 4 + 3 + 3 + 3, slopes.loss(3));
    }

    /** "Of several uses (a * a is two): .. greater r + L(how many uses)". */
    private void doublingsOfUses() {
        due.about("greater r + L(how many uses)");
        MeasuredTensors x = new MeasuredTensors();
        int sum = x.number(0, 1);
        int used = Ask.param(x);
        for (int uses = 1; uses <= 40; uses++) {
            sum = x.pair(0, sum, used);
            x.loss(sum);
            due.hasSlope(x, used, uses, 1 + doublings(uses), 0, 1);
        }
        MeasuredTensors twice = new MeasuredTensors();
        Ask.param(twice);
        twice.loss(twice.pair(2, 0, 0));
        due.hasSlope(twice, 0, 2, 1 + 15 + 1, 0, 1);
        twice.loss(Ask.two(twice, Ask.GAP, 0, 0));
        due.hasSlope(twice, 0, 2, 1 + 16 + 1 + 1, 0, 1);
        Ask.param(twice, 2);
        twice.loss(Ask.one(twice, Ask.SUM, Ask.two(twice, Ask.JOIN, 3, 3)));
        due.hasSlope(twice, 3, 2, 1 + 1, 0, 1);
        twice.loss(twice.pair(3, 3, 3));
        due.hasSlope(twice, 3, 2, 1 + 15 + 1, 0, 1);
    }

    /** "and r + L(cells of the result that a cell of the argument goes into)". */
    private void doublingsOfSpread() {
        due.about("r + L(cells of the result that a cell of the argument goes into)");
        for (int n : new int[] {1, 2, 3, 4, 5, 8, 9, 16, 17, 64, 65, 128, 129, 256, 257}) {
            int more = doublings(n);
            MeasuredTensors x = new MeasuredTensors();
            Ask.param(x);
            Ask.input(x, n);
            x.loss(Ask.one(x, Ask.SUM, x.pair(0, 1, 0)));
            due.hasSlope(x, 0, 1, 1 + more, 0, 1);
            due.hasSlope(x, 1, 1, 1, 0, 1);
            Ask.index(x, 1, n);
            Ask.index(x, 1);
            int row = Ask.param(x, 1, 1);
            x.loss(Ask.one(x, Ask.SUM, Ask.two(x, Ask.PICK, row, -1)));
            due.hasSlope(x, row, 1, 1 + more, 0, 1);
            x.loss(Ask.two(x, Ask.HINGE, 1, -2));
            due.hasSlope(x, 1, 1, 1 + more, 0, 1);
            int column = Ask.param(x, n, 1);
            x.loss(Ask.one(x, Ask.SUM, x.pair(3, column, row)));
            due.hasSlope(x, column, 1, 1 + 15, 0, 1);
            due.hasSlope(x, row, 1, 1 + 15 + more, 0, 1);
            int flat = Ask.reshape(x, column, 1, n);
            x.loss(Ask.one(x, Ask.SUM, x.pair(3, row, flat)));
            due.hasSlope(x, row, 1, 1 + 15 + more, 0, 1);
            due.hasSlope(x, flat, 1, 1 + 15, 0, 1);
        }
        spreadOfConvolutions();
    }

    /** "conv .. o p q for x; for f how many cells are told by (y, z)". */
    private void spreadOfConvolutions() {
        due.about("o p q for x; for f how many cells are told by (y, z)");
        int[][] rows = {
            // o, p, q, s, h, w and how many cells (y, z) tell
            {1, 1, 1, 1, 1, 1, 1}, {2, 1, 1, 1, 1, 1, 1}, {3, 1, 1, 1, 1, 2, 2}, {1, 2, 2, 1, 4, 2, 3},
            {1, 3, 3, 1, 4, 4, 4}, {2, 2, 2, 1, 6, 2, 5}, {3, 3, 1, 2, 9, 2, 4}, {17, 1, 1, 16, 32, 32, 4},
            {17, 1, 1, 16, 33, 33, 9}, {1, 4, 4, 1, 12, 4, 9},
        };
        for (int[] k : rows) {
            MeasuredTensors x = new MeasuredTensors();
            Ask.param(x, 2, k[4], k[5]);
            Ask.param(x, k[0], 2, k[1], k[2]);
            x.loss(Ask.one(x, Ask.SUM, Ask.two(x, Ask.CONV, 0, 1, k[3])));
            due.hasSlope(x, 0, 1, 1 + 15 + doublings(k[0] * k[1] * k[2]), 0, 1);
            due.hasSlope(x, 1, 1, 1 + 15 + doublings(k[6]), 0, 1);
        }
    }
}
