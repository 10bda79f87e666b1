import java.math.BigInteger;
import java.util.ArrayList;
import java.util.List;

/**
 * A network whose cells are exact numbers, beside an object that measures it: what a tensor's cells are and how each
 * depends on its arguments' cells, told from what the document says of each form. Cells go with the last side fastest.
 */
final class Exact {
    /** A cell of an argument that a cell is made of, and the derivative by it. */
    private record Part(Node argument, int cell, Fraction derivative) {
    }

    static final class Node {
        final int[] shape;
        final Fraction[] cells;
        final Fraction[] slopes;
        /** How many numbers have been added up in each cell. */
        final int[] added;
        boolean isStill = false;
        private final List<List<Part>> parts = new ArrayList<>();

        Node(int... shape) {
            this.shape = shape;
            int count = 1;
            for (int side : shape) {
                count *= side;
            }
            cells = new Fraction[count];
            slopes = new Fraction[count];
            added = new int[count];
            for (int c = 0; c < count; c++) {
                cells[c] = Fraction.ZERO;
                parts.add(new ArrayList<>());
            }
        }

        int count() {
            return cells.length;
        }

        private void add(int c, Fraction factor, Node a, int i) {
            cells[c] = cells[c].plus(factor.times(a.cells[i]));
            parts.get(c).add(new Part(a, i, factor));
            added[c]++;
        }

        private void add(int c, Node a, int i) {
            add(c, Fraction.ONE, a, i);
        }

        private void addProduct(int c, Node a, int i, Node b, int j) {
            cells[c] = cells[c].plus(a.cells[i].times(b.cells[j]));
            parts.get(c).add(new Part(a, i, b.cells[j]));
            parts.get(c).add(new Part(b, j, a.cells[i]));
            added[c]++;
        }
    }

    final MeasuredTensors x = new MeasuredTensors();
    final List<Node> nodes = new ArrayList<>();
    final int p;

    Exact(int p) {
        this.p = p;
        x.begin(p);
    }

    Node last() {
        return nodes.get(nodes.size() - 1);
    }

    int keep(Node node) {
        nodes.add(node);
        return nodes.size() - 1;
    }

    /** The greatest number of so many bits before the point and so many places behind it. */
    static Fraction greatest(int bits, int places) {
        return Fraction.places(BigInteger.ONE.shiftLeft(bits + places).subtract(BigInteger.ONE), places);
    }

    void number(int u, int l) {
        Node made = new Node();
        made.cells[0] = Fraction.of(u, l);
        keep(made);
    }

    /** "cell by cell, the smaller one again and again": it is the last sides of the other. */
    void pair(int how, Node a, Node b) {
        if (how == Ask.MATRIX) {
            matrixProduct(a, b);
            return;
        }
        Node made = new Node(a.count() > b.count() || a.shape.length > b.shape.length ? a.shape : b.shape);
        for (int c = 0; c < made.count(); c++) {
            int i = c % a.count();
            int j = c % b.count();
            if (how == Ask.TIMES) {
                made.addProduct(c, a, i, b, j);
            } else {
                made.add(c, a, i);
                made.add(c, how == Ask.PLUS ? Fraction.ONE : Fraction.of(-1, 1), b, j);
            }
        }
        keep(made);
    }

    /** "sums over n". */
    private void matrixProduct(Node a, Node b) {
        int n = b.shape[0];
        int rows = a.count() / n;
        int columns = b.count() / n;
        boolean hasRows = a.shape.length == 2;
        boolean hasColumns = b.shape.length == 2;
        Node made = hasRows ? hasColumns ? new Node(rows, columns) : new Node(rows)
                : hasColumns ? new Node(columns) : new Node();
        for (int row = 0; row < rows; row++) {
            for (int column = 0; column < columns; column++) {
                for (int k = 0; k < n; k++) {
                    made.addProduct(row * columns + column, a, row * n + k, b, k * columns + column);
                }
            }
        }
        keep(made);
    }

    /** Each cell so many times itself. */
    void scaled(Node a, Fraction factor) {
        Node made = new Node(a.shape);
        for (int c = 0; c < made.count(); c++) {
            made.add(c, factor, a, c);
        }
        keep(made);
    }

    /** "relu(a): a where it is above 0, else 0", "step(a): 1 where a is above 0, else 0". */
    void cellByCell(int what, Node a) {
        Node made = new Node(a.shape);
        made.isStill = what == Ask.STEP || what == Ask.STOP;
        for (int c = 0; c < made.count(); c++) {
            int sign = a.cells[c].sign();
            switch (what) {
                case Ask.RELU:
                    made.add(c, sign > 0 ? Fraction.ONE : Fraction.ZERO, a, c);
                    break;
                case Ask.ABS:
                    made.add(c, sign < 0 ? Fraction.of(-1, 1) : Fraction.ONE, a, c);
                    break;
                case Ask.SQUARE:
                    made.addProduct(c, a, c, a, c);
                    break;
                case Ask.STEP:
                    made.cells[c] = sign > 0 ? Fraction.ONE : Fraction.ZERO;
                    break;
                default:
                    made.cells[c] = a.cells[c];
                    break;
            }
        }
        keep(made);
    }

    /** "sum(a), mean(a): of all cells, no sides". */
    void total(int what, Node a) {
        Node made = new Node();
        for (int c = 0; c < a.count(); c++) {
            made.add(0, what == Ask.MEAN ? Fraction.of(1, a.count()) : Fraction.ONE, a, c);
        }
        keep(made);
    }

    /** Sum, mean or high "along side k, which goes"; of high "the first greatest one alone" has a derivative. */
    void along(int what, Node a, int k) {
        int apart = 1;
        int[] left = new int[a.shape.length - 1];
        for (int side = 0; side < a.shape.length; side++) {
            apart *= side > k ? a.shape[side] : 1;
            if (side != k) {
                left[side < k ? side : side - 1] = a.shape[side];
            }
        }
        int length = a.shape[k];
        Node made = new Node(left);
        for (int c = 0; c < made.count(); c++) {
            int from = c / apart * apart * length + c % apart;
            int first = from;
            for (int i = from; i < from + length * apart; i += apart) {
                first = a.cells[i].isAbove(a.cells[first]) ? i : first;
                if (what != Ask.HIGH) {
                    made.add(c, what == Ask.MEAN ? Fraction.of(1, length) : Fraction.ONE, a, i);
                }
            }
            if (what == Ask.HIGH) {
                made.add(c, a, first);
            }
        }
        keep(made);
    }

    private static int at(int[] shape, int c, int y, int z) {
        return (c * shape[1] + y) * shape[2] + z;
    }

    /** "cell (i, y, z) is the sum over c, p, q of x(., s y + ., s z + .) f(i, ., ., .)". */
    void conv(Node a, Node f, int s) {
        int[] window = f.shape;
        Node made = new Node(window[0], (a.shape[1] - window[2]) / s + 1, (a.shape[2] - window[3]) / s + 1);
        for (int c = 0; c < made.count(); c++) {
            int z = c % made.shape[2];
            int y = c / made.shape[2] % made.shape[1];
            int i = c / made.shape[2] / made.shape[1];
            int perFilter = window[1] * window[2] * window[3];
            for (int k = 0; k < perFilter; k++) {
                int right = k % window[3];
                int down = k / window[3] % window[2];
                int channel = k / window[3] / window[2];
                made.addProduct(c, a, at(a.shape, channel, s * y + down, s * z + right), f, i * perFilter + k);
            }
        }
        keep(made);
    }

    /** "means of p times p cells", or "the greatest ones (derivative: of the first one in order)". */
    void squares(int what, Node a, int side) {
        Node made = new Node(a.shape[0], a.shape[1] / side, a.shape[2] / side);
        for (int c = 0; c < made.count(); c++) {
            int z = c % made.shape[2] * side;
            int y = c / made.shape[2] % made.shape[1] * side;
            int channel = c / made.shape[2] / made.shape[1];
            int first = at(a.shape, channel, y, z);
            for (int k = 0; k < side * side; k++) {
                int i = at(a.shape, channel, y + k / side, z + k % side);
                first = a.cells[i].isAbove(a.cells[first]) ? i : first;
                if (what == Ask.POOL) {
                    made.add(c, Fraction.of(1, side * side), a, i);
                }
            }
            if (what == Ask.TOPS) {
                made.add(c, a, first);
            }
        }
        keep(made);
    }

    /** "as many cells, in their order". */
    void reshape(Node a, int... shape) {
        Node made = new Node(shape);
        for (int c = 0; c < a.count(); c++) {
            made.add(c, a, c);
        }
        keep(made);
    }

    void turn(Node a) {
        Node made = new Node(a.shape[1], a.shape[0]);
        for (int c = 0; c < a.count(); c++) {
            made.add(c, a, c % a.shape[0] * a.shape[1] + c / a.shape[0]);
        }
        keep(made);
    }

    private static Node withFirst(Node a, int first) {
        int[] shape = a.shape.clone();
        shape[0] = first;
        return new Node(shape);
    }

    /** "of the first side those from i to before j". */
    void part(Node a, int i, int j) {
        Node made = withFirst(a, j - i);
        int row = a.count() / a.shape[0];
        for (int c = 0; c < made.count(); c++) {
            made.add(c, a, i * row + c);
        }
        keep(made);
    }

    /** "one behind the other along the first side". */
    void join(Node a, Node b) {
        Node made = withFirst(a, a.shape[0] + b.shape[0]);
        for (int c = 0; c < made.count(); c++) {
            made.add(c, c < a.count() ? a : b, c < a.count() ? c : c - a.count());
        }
        keep(made);
    }

    /** "zeros on each of the four edges". */
    void pad(Node a, int edge) {
        Node made = new Node(a.shape[0], a.shape[1] + 2 * edge, a.shape[2] + 2 * edge);
        for (int i = 0; i < a.count(); i++) {
            int z = i % a.shape[2] + edge;
            int y = i / a.shape[2] % a.shape[1] + edge;
            made.add(at(made.shape, i / a.shape[2] / a.shape[1], y, z), a, i);
        }
        keep(made);
    }

    /** "[m, d], the rows told". */
    void pick(Node t, int... rows) {
        int d = t.shape[1];
        Node made = new Node(rows.length, d);
        for (int c = 0; c < made.count(); c++) {
            made.add(c, t, rows[c / d] * d + c % d);
        }
        keep(made);
    }

    /** "the sum over all k but i of relu(1 + a(k) - a(i))". */
    void hinge(Node a, int i) {
        Node made = new Node();
        for (int k = 0; k < a.count(); k++) {
            Fraction difference = Fraction.ONE.plus(a.cells[k]).minus(a.cells[i]);
            if (k != i && difference.sign() > 0) {
                made.cells[0] = made.cells[0].plus(difference);
                made.parts.get(0).add(new Part(a, k, Fraction.ONE));
                made.parts.get(0).add(new Part(a, i, Fraction.of(-1, 1)));
                made.added[0]++;
            }
        }
        keep(made);
    }

    /** "the sum of square(a - b) / 2". */
    void gap(Node a, Node b) {
        Node made = new Node();
        for (int c = 0; c < a.count(); c++) {
            Fraction difference = a.cells[c].minus(b.cells[c]);
            made.cells[0] = made.cells[0].plus(difference.times(difference).times(Fraction.of(1, 2)));
            made.parts.get(0).add(new Part(a, c, difference));
            made.parts.get(0).add(new Part(b, c, difference.negative()));
            made.added[0]++;
        }
        keep(made);
    }

    /** The derivative of this tensor by every cell: what a cell goes into lies behind it. */
    void derive(int loss) {
        for (Node node : nodes) {
            for (int c = 0; c < node.count(); c++) {
                node.slopes[c] = Fraction.ZERO;
            }
        }
        nodes.get(loss).slopes[0] = Fraction.ONE;
        for (int t = loss; t >= 0; t--) {
            Node node = nodes.get(t);
            for (int c = 0; c < node.count(); c++) {
                for (Part part : node.parts.get(c)) {
                    Fraction share = node.slopes[c].times(part.derivative);
                    part.argument.slopes[part.cell] = part.argument.slopes[part.cell].plus(share);
                }
            }
        }
    }
}
