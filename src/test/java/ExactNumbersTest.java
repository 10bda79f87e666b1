import java.math.BigInteger;

/**
 * "how many numbers are added up, and how wide each tensor's exact numbers, and those of the loss's derivative by it,
 * can become; before any number is known": networks whose exact numbers are then told, held against what was measured.
 */
final class ExactNumbersTest {
    private static final int TURNED = 20, OVER = 21, RESHAPE = 22, PAIR = 30, OPS = 34;
    private static final int STYLES = 5, NETWORKS = 1500;
    private static final String FIRST = "how many numbers are added up, and how wide each tensor's exact numbers, and "
            + "those of the loss's derivative by it, can become";

    private final Due due = new Due("Exact numbers");
    private Exact net;
    private int style;
    private long seed;
    private int looks = 0;
    private final int[] kept = new int[OPS];

    public static void main(String[] args) {
        ExactNumbersTest test = new ExactNumbersTest();
        test.everyForm();
        test.networks();
        test.cannotBeLess();
        test.due.end();
    }

    private int below(int n) {
        seed = seed * 6364136223846793005L + 1442695040888963407L;
        return (int) ((seed >>> 33) % n);
    }

    /** Numbers of so many bits before the point and places behind it: as great as can be, mixed, or tiny. */
    private Fraction cell(int c, int bits, int places) {
        Fraction greatest = Exact.greatest(bits, places);
        switch (style) {
            case 0:
                return greatest;
            case 1:
                return greatest.negative();
            case 2:
                return c % 2 == 0 ? greatest : greatest.negative();
            case 3:
                return Fraction.places(BigInteger.valueOf(c % 3 - 1), places);
            default:
                BigInteger high = BigInteger.valueOf(below(1 << 30)).shiftLeft(30);
                BigInteger any = high.add(BigInteger.valueOf(below(1 << 30)));
                BigInteger some = any.mod(BigInteger.ONE.shiftLeft(bits + places));
                return Fraction.places(below(2) == 0 ? some : some.negate(), places);
        }
    }

    /** "input: 16, 16, 1. param: 15, p, 1." */
    private int leaf(boolean isParam, int... shape) {
        Exact.Node made = new Exact.Node(shape);
        for (int c = 0; c < made.count(); c++) {
            made.cells[c] = isParam ? cell(c, 15, net.p) : cell(c, 16, 16);
        }
        int t = isParam ? Ask.param(net.x, shape) : Ask.input(net.x, shape);
        due.is("the number of a leaf", net.keep(made), t);
        return t;
    }

    private int index(int below, int... shape) {
        return Ask.index(net.x, below, shape);
    }

    /** Asks for op of the tensors i and j; the exact one is made if the class makes one. */
    private int ask(int op, int i, int j, int k, int m) {
        MeasuredTensors x = net.x;
        Exact.Node a = net.nodes.get(i);
        int answer;
        if (op >= PAIR) {
            answer = x.pair(op - PAIR, i, j);
        } else if (op == TURNED) {
            answer = x.turned(i);
        } else if (op == OVER) {
            answer = x.over(i, k, m);
        } else if (op == RESHAPE) {
            answer = Ask.reshape(x, i, a.shape.length == 0 ? new int[] {1} : new int[] {a.count()});
        } else if (op == Ask.PICK || op == Ask.HINGE) {
            int rows = a.shape.length == 0 ? 1 : a.shape[0];
            answer = Ask.two(x, op, i, op == Ask.PICK ? index(rows, k) : index(rows));
        } else if (op == Ask.CONV) {
            answer = Ask.two(x, op, i, j, k);
        } else if (op == Ask.JOIN || op == Ask.GAP) {
            answer = Ask.two(x, op, i, j);
        } else if (op == Ask.PART) {
            answer = Ask.one(x, op, i, k, m);
        } else if (op == Ask.HIGH || op == Ask.POOL || op == Ask.TOPS || op == Ask.PAD || withSide(op, m)) {
            answer = Ask.one(x, op, i, k);
        } else {
            answer = Ask.one(x, op, i);
        }
        if (answer >= 0 && x.told(answer, 5) <= 400) {
            exact(op, a, net.nodes.get(j), k, m);
            kept[op]++;
            isAsMeasured(op, answer);
        }
        return answer;
    }

    /** Sums and means are along a side or of all cells. */
    private static boolean withSide(int op, int m) {
        return (op == Ask.SUM || op == Ask.MEAN) && m > 0;
    }

    private void exact(int op, Exact.Node a, Exact.Node b, int k, int m) {
        switch (op) {
            case TURNED: net.scaled(a, Fraction.of(-1, 1)); break;
            case OVER: net.scaled(a, Fraction.of(m, k)); break;
            case RESHAPE: net.reshape(a, a.count()); break;
            case Ask.SUM:
            case Ask.MEAN:
                if (withSide(op, m)) {
                    net.along(op, a, k);
                } else {
                    net.total(op, a);
                }
                break;
            case Ask.HIGH: net.along(op, a, k); break;
            case Ask.CONV: net.conv(a, b, k); break;
            case Ask.POOL:
            case Ask.TOPS: net.squares(op, a, k); break;
            case Ask.TURN: net.turn(a); break;
            case Ask.PART: net.part(a, k, m); break;
            case Ask.JOIN: net.join(a, b); break;
            case Ask.PAD: net.pad(a, k); break;
            case Ask.PICK: net.pick(a, rows(k, a.shape[0])); break;
            case Ask.HINGE: net.hinge(a, below(a.count())); break;
            case Ask.GAP: net.gap(a, b); break;
            default:
                if (op >= PAIR) {
                    net.pair(op - PAIR, a, b);
                } else {
                    net.cellByCell(op, a);
                }
                break;
        }
    }

    /** What an index tells: often the same row, so that many rows of the result hold it. */
    private int[] rows(int count, int below) {
        int[] rows = new int[count];
        for (int k = 0; k < count; k++) {
            rows[k] = below(2) == 0 ? 0 : below(below);
        }
        return rows;
    }

    private void isAsMeasured(int op, int t) {
        MeasuredTensors x = net.x;
        Exact.Node node = net.last();
        due.is("the newest", net.nodes.size() - 1, t);
        due.hasShape(x, t, node.shape);
        int terms = x.told(t, 6);
        boolean addsUp = op == Ask.SUM || op == Ask.MEAN || op == Ask.POOL || op == Ask.CONV || op == Ask.GAP
                || op == PAIR + Ask.MATRIX;
        for (int added : node.added) {
            if (addsUp) {
                due.is("terms of op " + op, added, terms);
            } else if (op == Ask.HINGE) {
                due.is("terms of hinge are enough", 1, added < terms ? 1 : 0);
            } else {
                due.is("terms of op " + op, 1, terms);
            }
        }
        isWithin("op " + op, node.cells, x.told(t, 7), x.told(t, 8), x.divisor(t, false));
    }

    /** "RANGE r, PLACES e, DIVISOR q (odd)". */
    private void isWithin(String what, Fraction[] cells, int r, int e, long q) {
        due.is("q of " + what + " is odd", 1, q % 2);
        for (Fraction cell : cells) {
            looks++;
            if (!cell.isWithin(r) || !cell.isMultiple(e, q)) {
                due.is(what + ": " + cell + " is not within r " + r + ", e " + e + ", q " + q, 1, 0);
            }
        }
    }

    /** "the slope of a tensor is the derivative of the loss by its cells": 0 for what has none but step and stop. */
    private void lossIsAsMeasured(int t) {
        MeasuredTensors x = net.x;
        if (x.loss(t) == MeasuredTensors.FULL) {
            return;
        }
        net.derive(t);
        for (int k = 0; k < net.nodes.size(); k++) {
            Exact.Node node = net.nodes.get(k);
            if (x.told(k, 9) > 0) {
                isWithin("slope of " + k, node.slopes, x.told(k, 10), x.told(k, 11), x.divisor(k, true));
            } else if (!node.isStill) {
                for (Fraction slope : node.slopes) {
                    due.is("sign of the slope of " + k, 0, slope.sign());
                }
            }
        }
    }

    /** The losses sum(t) and sum(t) / (14 / 3). */
    private void totalIsAsMeasured(int t) {
        int total = net.x.told(t, 0) == 0 ? t : ask(Ask.SUM, t, t, 0, 0);
        lossIsAsMeasured(total);
        lossIsAsMeasured(ask(OVER, total, total, 14, 3));
    }

    private void everyForm() {
        due.about(FIRST);
        int[][] rows = {
            // op, k, m; a's sides; b's sides
            {PAIR + Ask.PLUS, 0, 0}, {2, 3}, {3}, {PAIR + Ask.MINUS, 0, 0}, {3}, {2, 3},
            {PAIR + Ask.TIMES, 0, 0}, {2, 3}, {}, {PAIR + Ask.TIMES, 0, 0}, {2}, {3, 2},
            {PAIR + Ask.MATRIX, 0, 0}, {2, 3}, {3}, {PAIR + Ask.MATRIX, 0, 0}, {2, 3}, {3, 5},
            {PAIR + Ask.MATRIX, 0, 0}, {3}, {3, 5}, {PAIR + Ask.MATRIX, 0, 0}, {5}, {5},
            {TURNED, 0, 0}, {2, 3}, {}, {OVER, 12, 7}, {2, 3}, {}, {RESHAPE, 0, 0}, {2, 3}, {},
            {Ask.RELU, 0, 0}, {2, 3}, {}, {Ask.ABS, 0, 0}, {2, 3}, {}, {Ask.SQUARE, 0, 0}, {2, 3}, {},
            {Ask.STEP, 0, 0}, {2, 3}, {}, {Ask.STOP, 0, 0}, {2, 3}, {},
            {Ask.SUM, 0, 0}, {3, 3}, {}, {Ask.SUM, 1, 1}, {2, 3, 4}, {}, {Ask.MEAN, 0, 0}, {3, 3}, {},
            {Ask.MEAN, 0, 1}, {5, 3}, {}, {Ask.HIGH, 1, 0}, {2, 3, 4}, {}, {Ask.CONV, 1, 0}, {2, 4, 5}, {3, 2, 2, 3},
            {Ask.CONV, 2, 0}, {1, 5, 5}, {2, 1, 3, 2}, {Ask.POOL, 3, 0}, {2, 6, 3}, {}, {Ask.TOPS, 2, 0}, {2, 4, 6}, {},
            {Ask.TURN, 0, 0}, {2, 3}, {}, {Ask.PART, 1, 3}, {4, 3}, {}, {Ask.JOIN, 0, 0}, {2, 3}, {3, 3},
            {Ask.PAD, 2, 0}, {2, 1, 3}, {}, {Ask.PICK, 5, 0}, {3, 2}, {}, {Ask.HINGE, 0, 0}, {5}, {},
            {Ask.GAP, 0, 0}, {2, 3}, {2, 3},
        };
        for (int k = 0; k < rows.length; k += 3) {
            for (style = 0; style < STYLES; style++) {
                for (int p : new int[] {0, 9}) {
                    form(rows[k], rows[k + 1], rows[k + 2], p, false);
                    form(rows[k], rows[k + 1], rows[k + 2], p, true);
                }
            }
        }
        for (int op : Ask.CALLS) {
            due.is("call " + op + " was made", 1, kept[op] > 0 ? 1 : 0);
        }
    }

    /** Of a param and an input, or of these divided, so that there are divisors too. */
    private void form(int[] op, int[] shapeOfA, int[] shapeOfB, int p, boolean divided) {
        net = new Exact(p);
        int param = leaf(true, shapeOfA);
        int input = leaf(false, shapeOfB);
        int a = divided ? ask(OVER, param, param, 3, 2) : param;
        int b = divided ? ask(OVER, input, input, 10, 7) : input;
        int made = ask(op[0], a, b, op[1], op[2]);
        due.is("op " + op[0], b + 1, made);
        totalIsAsMeasured(made);
    }

    /** Whatever goes together, one made of others; then losses of some. */
    private void networks() {
        due.about(FIRST);
        int made = 0;
        for (int k = 0; k < NETWORKS; k++) {
            seed = k;
            style = k % STYLES;
            net = new Exact(below(20));
            grow();
            made += net.nodes.size();
            int t = net.nodes.size() - 1 - below(2);
            if (net.nodes.size() == net.x.all(0)) {
                totalIsAsMeasured(t);
            }
        }
        due.is("many tensors", 1, made > 10 * NETWORKS ? 1 : 0);
        due.is("many cells were looked at", 1, looks > 100 * NETWORKS ? 1 : 0);
    }

    private void grow() {
        int[][] shapes = {{}, {2}, {3}, {2, 3}, {3, 2}, {3, 3}, {2, 4, 4}, {1, 4, 6}, {2, 2, 2, 3}};
        for (int k = 0; k < 4; k++) {
            leaf(below(2) == 0, shapes[below(shapes.length)]);
        }
        int u = below(40);
        net.number(u, 2 * u + 1);
        net.x.number(u, 2 * u + 1);
        for (int tries = 0; tries < 60 && net.nodes.size() < 18; tries++) {
            int op = below(3) == 0 ? PAIR + below(4) : below(RESHAPE + 1);
            if (op != 11 && op != 19) {
                int u2 = 1 + below(9);
                boolean isFraction = op == OVER;
                int k = isFraction ? u2 : op == Ask.PICK ? 1 + below(4) : below(4);
                ask(op, newest(), newest(), k, isFraction ? u2 + 1 : below(4));
            }
            if (net.nodes.size() < net.x.all(0)) {
                return;
            }
        }
    }

    private int newest() {
        int count = net.nodes.size();
        return below(2) == 0 ? count - 1 - below(Math.min(count, 4)) : below(count);
    }

    /** What is added, multiplied or told needs its r and e: with the greatest numbers neither could be one less. */
    private void cannotBeLess() {
        due.about("how wide each tensor's exact numbers can become");
        style = 0;
        for (int p : new int[] {0, 9}) {
            net = new Exact(p);
            int a = leaf(true, 2, 3);
            int b = leaf(false, 2, 3);
            int image = leaf(false, 2, 4, 5);
            int filter = leaf(true, 3, 2, 2, 3);
            int[] asked = {a, b, image, filter, ask(PAIR + Ask.PLUS, a, b, 0, 0), ask(PAIR + Ask.TIMES, a, b, 0, 0),
                ask(PAIR + Ask.MATRIX, a, ask(Ask.TURN, b, b, 0, 0), 0, 0), ask(Ask.CONV, image, filter, 1, 0),
                ask(Ask.SQUARE, b, b, 0, 0), ask(Ask.SUM, b, b, 0, 0), ask(Ask.SUM, a, a, 1, 1),
                ask(Ask.JOIN, a, b, 0, 0), ask(Ask.RELU, b, b, 0, 0), ask(Ask.PAD, image, image, 1, 0)};
            for (int t : asked) {
                int r = net.x.told(t, 7);
                int e = net.x.told(t, 8);
                boolean needsRange = false;
                boolean needsPlaces = e == 0;
                for (Fraction cell : net.nodes.get(t).cells) {
                    needsRange |= !cell.isWithin(r - 1);
                    needsPlaces |= e > 0 && !cell.isMultiple(e - 1, 1);
                }
                due.is("r of tensor " + t + " is needed", 1, needsRange ? 1 : 0);
                due.is("e of tensor " + t + " is needed", 1, needsPlaces || isEvenSum(t) ? 1 : 0);
            }
        }
    }

    /** Sums of equal numbers, an even count of them, end in a zero. */
    private boolean isEvenSum(int t) {
        return net.x.told(t, 6) % 2 == 0;
    }
}
