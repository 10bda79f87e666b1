import java.math.BigInteger;
import java.util.ArrayList;
import java.util.Arrays;
import java.util.List;

/**
 * The document in another form, to hold the class against: shapes are lists of sides, divisors have no bound of their
 * own, and a slope is asked of all uses instead of being handed down.
 */
final class Model {
    private static final int NONE = -1, WRONG = -5, FULL = -8;
    private static final BigInteger BOUND = BigInteger.ONE.shiftLeft(62);

    record Width(long r, long e, BigInteger q) {
        Width times(Width o) {
            return new Width(r + o.r, e + o.e, q.multiply(o.q));
        }

        Width lcm(Width o) {
            return new Width(Math.max(r, o.r), Math.max(e, o.e), q.multiply(o.q).divide(q.gcd(o.q)));
        }

        Width wider(long bits) {
            return new Width(r + bits, e, q);
        }

        boolean beyond() {
            return r > 4000 || e > 4000 || q.compareTo(BOUND) >= 0;
        }

        long limbs() {
            long bits = r + e + 64;
            return bits / 32 + (bits % 32 == 0 ? 0 : 1);
        }
    }

    static final class T {
        String made;
        List<Integer> shape = new ArrayList<>();
        long terms = 1;
        Width width;
        Width factor;
        boolean param;
        int[] arguments = {};
        long[] into = {};
        int uses;
        Width slope;

        T(String made, List<Integer> shape, Width width) {
            this.made = made;
            this.shape = shape;
            this.width = width;
        }

        long cells() {
            return Model.cells(shape);
        }
    }

    record I(List<Integer> shape, int below) {
    }

    private final List<T> tensors = new ArrayList<>();
    private final List<I> indices = new ArrayList<>();
    private long work;
    private int loss = NONE;
    private int p;

    static long cells(List<Integer> shape) {
        long cells = 1;
        for (int side : shape) {
            cells *= side;
        }
        return cells;
    }

    private static long log(long n) {
        long k = 0;
        while (BigInteger.ONE.shiftLeft((int) k).compareTo(BigInteger.valueOf(n)) < 0) {
            k++;
        }
        return k;
    }

    private static Width fraction(long u, long l) {
        long e = 0;
        while (l % 2 == 0) {
            l /= 2;
            e++;
        }
        return new Width(BigInteger.valueOf(u).bitLength(), e, BigInteger.valueOf(l));
    }

    private static void illegalIf(boolean wrong) {
        if (wrong) {
            throw new IllegalArgumentException();
        }
    }

    private T tensor(int t) {
        if (t < 0 || t >= tensors.size()) {
            throw new IndexOutOfBoundsException();
        }
        return tensors.get(t);
    }

    private static List<Integer> sides(int sides, int a, int b, int c, int d) {
        illegalIf(sides < 0 || sides > 4);
        List<Integer> shape = Arrays.asList(a, b, c, d).subList(0, sides);
        for (int side : shape) {
            illegalIf(side < 1 || side > 4096);
        }
        return new ArrayList<>(shape);
    }

    private int keep(T t) {
        boolean full = tensors.size() >= 4000 || t.cells() > 65536 || t.width.beyond();
        for (int side : t.shape) {
            full |= side > 4096;
        }
        if (full || work + t.cells() * t.terms > 1000000) {
            return FULL;
        }
        work += t.cells() * t.terms;
        tensors.add(t);
        return tensors.size() - 1;
    }

    long begin(int places) {
        illegalIf(places < 0 || places > 64);
        tensors.clear();
        indices.clear();
        work = 0;
        loss = NONE;
        p = places;
        return 0;
    }

    private static boolean least(int u, int l) {
        return BigInteger.valueOf(u).gcd(BigInteger.valueOf(l)).equals(BigInteger.ONE);
    }

    long number(int u, int l) {
        illegalIf(u < 0 || l < 1 || !least(u, l));
        return keep(new T("number", List.of(), fraction(u, l)));
    }

    long made(boolean param, int sides, int a, int b, int c, int d) {
        T t = new T("made", sides(sides, a, b, c, d), new Width(param ? 15 : 16, param ? p : 16, BigInteger.ONE));
        t.param = param;
        return keep(t);
    }

    long index(int sides, int a, int b, int c, int d, int below) {
        List<Integer> shape = sides(sides, a, b, c, d);
        illegalIf(below < 1 || below > 65536);
        if (cells(shape) > 4096 || indices.size() >= 1000) {
            throw new UnsupportedOperationException();
        }
        indices.add(new I(shape, below));
        return indices.size() - 1;
    }

    private static T of(String made, List<Integer> shape, Width width, int[] arguments, long... into) {
        T t = new T(made, shape, width);
        t.arguments = arguments;
        t.into = into;
        return t;
    }

    long pair(int how, int a, int b) {
        T x = tensor(a);
        T y = tensor(b);
        illegalIf(how < 0 || how > 3);
        int[] both = {a, b};
        if (how == 3) {
            return matrix(x, y, both);
        }
        int n = x.shape.size();
        int m = y.shape.size();
        List<Integer> shape;
        if (n >= m && x.shape.subList(n - m, n).equals(y.shape)) {
            shape = x.shape;
        } else if (m > n && y.shape.subList(m - n, m).equals(x.shape)) {
            shape = y.shape;
        } else {
            return WRONG;
        }
        Width width = how == 2 ? x.width.times(y.width) : x.width.lcm(y.width).wider(1);
        return keep(of(how == 2 ? "*" : "+", shape, width, both, cells(shape) / x.cells(), cells(shape) / y.cells()));
    }

    private int matrix(T x, T y, int[] both) {
        String form = x.shape.size() + "@" + y.shape.size();
        if (!List.of("2@1", "2@2", "1@2", "1@1").contains(form)
                || !x.shape.get(x.shape.size() - 1).equals(y.shape.get(0))) {
            return WRONG;
        }
        List<Integer> shape = new ArrayList<>(x.shape.subList(0, x.shape.size() - 1));
        shape.addAll(y.shape.subList(1, y.shape.size()));
        long n = y.shape.get(0);
        T t = of("*", shape, x.width.times(y.width).wider(log(n)), both,
                y.shape.size() == 2 ? y.shape.get(1) : 1, x.shape.size() == 2 ? x.shape.get(0) : 1);
        t.terms = n;
        return keep(t);
    }

    long turned(int a) {
        return keep(of("-", tensor(a).shape, tensor(a).width, new int[] {a}, 1));
    }

    long over(int a, int u, int l) {
        T x = tensor(a);
        illegalIf(u < 1 || l < 1 || !least(u, l));
        T t = of("/", x.shape, x.width.times(fraction(l, u)), new int[] {a}, 1);
        t.factor = fraction(l, u);
        return keep(t);
    }

    private static final String[] NAMES = {"relu", "abs", "square", "step", "stop", "sum", "mean", "high", "conv",
        "pool", "tops", null, "turn", "part", "join", "pad", "pick", "hinge", "gap"};
    private static final String[] FORMS = {"T", "T", "T", "T", "T", "T?", "T?", "T1", "TT1", "T1", "T1", null, "T",
        "T11", "TT", "T1", "TI", "TI", "TT"};

    long call(int what, int n, int a, int b, int m, int x, int y) {
        illegalIf(what < 0 || what >= NAMES.length || what == 11 || n < 0 || n > 2 || m < 0 || m > 2);
        illegalIf((m >= 1 && x < 0) || (m == 2 && y < 0));
        StringBuilder form = new StringBuilder();
        int[] given = {a, b};
        for (int k = 0; k < n; k++) {
            if (given[k] >= tensors.size() || (given[k] < 0 && -1 - given[k] >= indices.size())) {
                throw new IndexOutOfBoundsException();
            }
            form.append(given[k] < 0 ? 'I' : 'T');
        }
        form.append("1".repeat(m));
        if (FORMS[what].equals("T?") ? !form.toString().matches("T1?") : !form.toString().equals(FORMS[what])) {
            return WRONG;
        }
        T t = tensors.get(a);
        if (form.toString().startsWith("TT")) {
            return callOfTwo(NAMES[what], a, b, x);
        }
        if (form.toString().equals("TI")) {
            return callOfIndex(NAMES[what], a, indices.get(-1 - b));
        }
        T made = of(NAMES[what], new ArrayList<>(t.shape), t.width, new int[] {a}, 1);
        return callOfOne(made, t, m, x, y) ? keep(made) : WRONG;
    }

    private static boolean callOfOne(T made, T t, int m, int x, int y) {
        int sides = t.shape.size();
        switch (made.made) {
            case "square":
                made.width = t.width.times(t.width);
                return true;
            case "step":
                made.width = new Width(1, 0, BigInteger.ONE);
                return true;
            case "sum":
            case "mean":
            case "high":
                return along(made, t, m, x);
            case "pool":
            case "tops":
                if (sides != 3 || x == 0 || t.shape.get(1) % x != 0 || t.shape.get(2) % x != 0) {
                    return false;
                }
                made.shape = List.of(t.shape.get(0), t.shape.get(1) / x, t.shape.get(2) / x);
                if (made.made.equals("pool")) {
                    average(made, (long) x * x);
                }
                return true;
            case "turn":
                if (sides != 2) {
                    return false;
                }
                made.shape = List.of(t.shape.get(1), t.shape.get(0));
                return true;
            case "part":
                if (sides == 0 || x >= y || y > t.shape.get(0)) {
                    return false;
                }
                made.shape.set(0, y - x);
                return true;
            case "pad":
                if (sides != 3 || x < 1 || x > 16) {
                    return false;
                }
                made.shape = List.of(t.shape.get(0), t.shape.get(1) + 2 * x, t.shape.get(2) + 2 * x);
                return true;
            default:
                return true;
        }
    }

    private static void average(T made, long terms) {
        made.terms = terms;
        made.factor = fraction(1, terms);
        made.width = made.width.wider(log(terms)).times(made.factor);
    }

    private static boolean along(T made, T t, int m, int k) {
        if (m == 1 && k >= t.shape.size()) {
            return false;
        }
        long terms = t.cells();
        if (m == 1) {
            terms = made.shape.remove(k);
        } else {
            made.shape.clear();
        }
        if (made.made.equals("mean")) {
            average(made, terms);
        } else if (made.made.equals("sum")) {
            made.terms = terms;
            made.width = t.width.wider(log(terms));
        }
        return true;
    }

    private int callOfTwo(String name, int a, int b, int s) {
        T x = tensors.get(a);
        T y = tensors.get(b);
        int[] both = {a, b};
        if (name.equals("gap")) {
            if (!x.shape.equals(y.shape)) {
                return WRONG;
            }
            Width d = x.width.lcm(y.width).wider(1);
            T t = of(name, List.of(), d.times(d).wider(log(x.cells())).times(fraction(1, 2)), both, 1, 1);
            t.terms = x.cells();
            return keep(t);
        }
        if (name.equals("join")) {
            int n = x.shape.size();
            if (n == 0 || n != y.shape.size() || !x.shape.subList(1, n).equals(y.shape.subList(1, n))) {
                return WRONG;
            }
            List<Integer> shape = new ArrayList<>(x.shape);
            shape.set(0, x.shape.get(0) + y.shape.get(0));
            return keep(of(name, shape, x.width.lcm(y.width), both, 1, 1));
        }
        if (x.shape.size() != 3 || y.shape.size() != 4 || s < 1 || s > 16) {
            return WRONG;
        }
        int c = x.shape.get(0);
        int h = x.shape.get(1) - y.shape.get(2);
        int w = x.shape.get(2) - y.shape.get(3);
        if (c != y.shape.get(1) || h < 0 || w < 0) {
            return WRONG;
        }
        long window = (long) y.shape.get(2) * y.shape.get(3);
        List<Integer> shape = List.of(y.shape.get(0), h / s + 1, w / s + 1);
        T t = of("*", shape, x.width.times(y.width).wider(log(c * window)), both,
                y.shape.get(0) * window, (long) shape.get(1) * shape.get(2));
        t.terms = c * window;
        return keep(t);
    }

    private int callOfIndex(String name, int a, I i) {
        T x = tensors.get(a);
        boolean pick = name.equals("pick");
        if (x.shape.size() != (pick ? 2 : 1) || i.shape.size() != (pick ? 1 : 0) || i.below > x.shape.get(0)) {
            return WRONG;
        }
        if (pick) {
            int m = i.shape.get(0);
            return keep(of(name, List.of(m, x.shape.get(1)), x.width, new int[] {a}, m));
        }
        long n = x.shape.get(0);
        T t = of(name, List.of(), x.width.wider(3 + log(n)), new int[] {a}, n);
        t.terms = n;
        return keep(t);
    }

    long reshape(int t, int sides, int a, int b, int c, int d) {
        T x = tensor(t);
        List<Integer> shape = sides(sides, a, b, c, d);
        return cells(shape) != x.cells() ? WRONG : keep(of("reshape", shape, x.width, new int[] {t}, 1));
    }

    private Width share(T result, int k) {
        Width w = result.slope;
        Width own = tensors.get(result.arguments[k]).width;
        switch (result.made) {
            case "*":
                w = w.times(tensors.get(result.arguments[1 - k]).width);
                break;
            case "square":
                w = w.times(own).wider(1);
                break;
            case "gap":
                w = w.times(own.lcm(tensors.get(result.arguments[1 - k]).width).wider(1)).wider(1);
                break;
            case "/":
            case "mean":
            case "pool":
                w = w.times(result.factor);
                break;
            default:
                break;
        }
        return w.wider(log(result.into[k]));
    }

    private static boolean still(T t) {
        return t.made.equals("step") || t.made.equals("stop");
    }

    private void slopeOf(int number) {
        T t = tensors.get(number);
        t.uses = number == loss ? 1 : 0;
        t.slope = number == loss ? new Width(1, 0, BigInteger.ONE) : null;
        if (still(t) || number >= loss) {
            return;
        }
        for (T result : tensors.subList(number + 1, tensors.size())) {
            for (int k = 0; k < result.arguments.length; k++) {
                if (result.arguments[k] == number && result.slope != null && !still(result)) {
                    Width share = share(result, k);
                    t.slope = t.uses == 0 ? share : t.slope.lcm(share);
                    t.uses++;
                }
            }
        }
        t.slope = t.uses == 0 ? null : t.slope.wider(log(t.uses));
    }

    long loss(int number) {
        T root = tensor(number);
        illegalIf(!root.shape.isEmpty());
        loss = number;
        long limbs = 0;
        boolean full = false;
        BigInteger common = BigInteger.ONE;
        for (int k = tensors.size() - 1; k >= 0; k--) {
            slopeOf(k);
            T t = tensors.get(k);
            limbs += t.cells() * t.width.limbs();
            if (t.slope != null) {
                limbs += t.cells() * t.slope.limbs();
                full |= t.slope.beyond();
                if (t.param) {
                    common = common.multiply(t.slope.q).divide(common.gcd(t.slope.q));
                }
            }
        }
        if (full || limbs > 200000 || common.compareTo(BOUND) >= 0) {
            loss = NONE;
            for (T t : tensors) {
                t.uses = 0;
                t.slope = null;
            }
            return FULL;
        }
        return limbs;
    }

    long told(int number, int what) {
        T t = tensor(number);
        illegalIf(what < 0 || what > 11);
        switch (what) {
            case 0:
                return t.shape.size();
            case 5:
                return t.cells();
            case 6:
                return t.terms;
            case 7:
                return t.width.r;
            case 8:
                return t.width.e;
            case 9:
                return t.uses;
            case 10:
                return t.slope == null ? NONE : t.slope.r;
            case 11:
                return t.slope == null ? NONE : t.slope.e;
            default:
                return what <= t.shape.size() ? t.shape.get(what - 1) : 1;
        }
    }

    long divisor(int number, boolean slope) {
        T t = tensor(number);
        if (!slope) {
            return t.width.q.longValueExact();
        }
        return t.slope == null ? NONE : t.slope.q.longValueExact();
    }

    long all(int what) {
        long[] counts = {tensors.size(), indices.size(), work, loss};
        return what < 0 || what > 3 ? NONE : counts[what];
    }
}
