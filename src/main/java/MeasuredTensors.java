/**
 * Tensors of a network, one made of others: their shapes, how many numbers are added up in them, and how wide their
 * exact numbers and those of the loss's derivative by them can become, before any number is known.
 */
public final class MeasuredTensors {
    public static final int NONE = -1, WRONG = -5, FULL = -8;

    private static final int MOST_SIDES = 4;
    private static final int LONGEST_SIDE = 4096;
    private static final int MOST_CELLS = 65536;
    private static final int MOST_TENSORS = 4000;
    private static final int MOST_INDICES = 1000;
    private static final int MOST_INDEX_CELLS = 4096;
    private static final int HIGHEST_BELOW = 65536;
    private static final int MOST_PARAM_PLACES = 64;
    private static final int WIDEST = 4000;
    private static final long DIVISOR_BOUND = 1L << 62;
    private static final int MOST_WORK = 1000000;
    private static final int MOST_LIMBS = 200000;
    private static final int LONGEST_STRIDE = 16;
    private static final int WIDEST_EDGE = 16;

    private static final int TIMES = 2, MATRIX = 3;

    private static final int RELU = 0, ABS = 1, SQUARE = 2, STEP = 3, STOP = 4, SUM = 5, MEAN = 6, HIGH = 7, CONV = 8;
    private static final int POOL = 9, TOPS = 10, TURN = 12, PART = 13, JOIN = 14, PAD = 15, PICK = 16, HINGE = 17;
    private static final int GAP = 18;

    /** How a result hands its slope to its arguments. */
    private static final int AS_IT_IS = 0, NOT_AT_ALL = 1, BY_THE_OTHER = 2, BY_ITSELF = 3, BY_THE_DIFFERENCE = 4;
    private static final int BY_A_DIVISION = 5;

    private final Tensor[] tensors = new Tensor[MOST_TENSORS];
    private final Index[] indices = new Index[MOST_INDICES];
    private final Measure share = new Measure();
    private final Measure difference = new Measure();
    private Tensor draft = new Tensor();
    private int tensorCount = 0;
    private int indexCount = 0;
    private int workDone = 0;
    private int lossNumber = NONE;
    private int paramPlaces = 0;

    public MeasuredTensors() {
    }

    public void begin(int p) throws IllegalArgumentException {
        if (p < 0 || p > MOST_PARAM_PLACES) {
            throw new IllegalArgumentException("p is not 0 .. 64");
        }
        tensorCount = 0;
        indexCount = 0;
        workDone = 0;
        lossNumber = NONE;
        paramPlaces = p;
    }

    public int number(int u, int l) throws IllegalArgumentException {
        if (u < 0 || l < 1 || !areInLeastTerms(u, l)) {
            throw new IllegalArgumentException("no number in least terms");
        }
        draft.start(NONE, NONE);
        int twos = twosIn(l);
        draft.measure.set(bitsOf(u), twos, l >> twos);
        return keepDraft();
    }

    public int made(boolean param, int sides, int a, int b, int c, int d) throws IllegalArgumentException {
        if (!areSides(sides, a, b, c, d)) {
            throw new IllegalArgumentException("no such sides");
        }
        draft.start(NONE, NONE);
        draft.shape.set(sides, a, b, c, d);
        draft.isParam = param;
        draft.measure.set(param ? 15 : 16, param ? paramPlaces : 16, 1);
        return keepDraft();
    }

    public int index(int sides, int a, int b, int c, int d, int below)
            throws IllegalArgumentException, UnsupportedOperationException {
        if (!areSides(sides, a, b, c, d) || below < 1 || below > HIGHEST_BELOW) {
            throw new IllegalArgumentException("no such sides, or below is not 1 .. 65536");
        }
        Index fresh = new Index();
        fresh.shape.set(sides, a, b, c, d);
        fresh.below = below;
        if (fresh.shape.cells() > MOST_INDEX_CELLS || indexCount < 0 || indexCount >= indices.length) {
            throw new UnsupportedOperationException("too many cells, or indices");
        }
        indices[indexCount] = fresh;
        indexCount++;
        return indexCount - 1;
    }

    public int pair(int how, int a, int b) throws IndexOutOfBoundsException, IllegalArgumentException {
        Tensor left = tensorAt(a);
        Tensor right = tensorAt(b);
        if (left == null || right == null) {
            throw new IndexOutOfBoundsException("no such tensor");
        }
        if (how < 0 || how > MATRIX) {
            throw new IllegalArgumentException("no such pair");
        }
        draft.start(a, b);
        boolean fits = how == MATRIX ? draftMatrixProduct(left, right) : draftCellByCell(how, left, right);
        return fits ? keepDraft() : WRONG;
    }

    public int turned(int a) throws IndexOutOfBoundsException {
        Tensor argument = tensorAt(a);
        if (argument == null) {
            throw new IndexOutOfBoundsException("no such tensor");
        }
        draft.start(a, NONE);
        draft.resemble(argument);
        return keepDraft();
    }

    public int over(int a, int u, int l) throws IndexOutOfBoundsException, IllegalArgumentException {
        Tensor argument = tensorAt(a);
        if (argument == null) {
            throw new IndexOutOfBoundsException("no such tensor");
        }
        if (u < 1 || l < 1 || !areInLeastTerms(u, l)) {
            throw new IllegalArgumentException("no fraction in least terms");
        }
        draft.start(a, NONE);
        draft.resemble(argument);
        draft.divide(u, l);
        return keepDraft();
    }

    public int call(int what, int n, int a, int b, int m, int x, int y)
            throws IllegalArgumentException, IndexOutOfBoundsException {
        if (argumentsOf(what) == 0 || n < 0 || n > 2 || !areWholeNumbers(m, x, y)) {
            throw new IllegalArgumentException("no such call");
        }
        if ((n > 0 && !isThere(a)) || (n > 1 && !isThere(b))) {
            throw new IndexOutOfBoundsException("no such argument");
        }
        Tensor first = tensorAt(a);
        if (n != argumentsOf(what) || m < fewestNumbersOf(what) || m > mostNumbersOf(what) || first == null) {
            return WRONG;
        }
        draft.start(a, n == 2 && b >= 0 ? b : NONE);
        draft.resemble(first);
        boolean fits;
        if (n == 1) {
            fits = draftOfOne(what, first, m, x, y);
        } else if (what == PICK || what == HINGE) {
            fits = draftWithIndex(what, first, indexAt(-1 - b));
        } else {
            fits = draftOfTwo(what, first, tensorAt(b), x);
        }
        return fits ? keepDraft() : WRONG;
    }

    public int reshape(int t, int sides, int a, int b, int c, int d)
            throws IndexOutOfBoundsException, IllegalArgumentException {
        Tensor argument = tensorAt(t);
        if (argument == null) {
            throw new IndexOutOfBoundsException("no such tensor");
        }
        if (!areSides(sides, a, b, c, d)) {
            throw new IllegalArgumentException("no such sides");
        }
        draft.start(t, NONE);
        draft.resemble(argument);
        draft.shape.set(sides, a, b, c, d);
        return draft.shape.cells() == argument.shape.cells() ? keepDraft() : WRONG;
    }

    public int loss(int t) throws IndexOutOfBoundsException, IllegalArgumentException {
        Tensor root = tensorAt(t);
        if (root == null) {
            throw new IndexOutOfBoundsException("no such tensor");
        }
        if (root.shape.sides != 0) {
            throw new IllegalArgumentException("it has sides");
        }
        forgetSlopes();
        share.set(1, 0, 1);
        root.takeShare(share);
        lossNumber = t;
        boolean fits = measureSlopes(t) && paramSlopesFit();
        long limbs = fits ? countLimbs() : 0;
        if (!fits || limbs > MOST_LIMBS) {
            forgetSlopes();
            lossNumber = NONE;
            return FULL;
        }
        return (int) limbs;
    }

    public int told(int t, int what) throws IndexOutOfBoundsException, IllegalArgumentException {
        Tensor tensor = tensorAt(t);
        if (tensor == null) {
            throw new IndexOutOfBoundsException("no such tensor");
        }
        switch (what) {
            case 0:
                return tensor.shape.sides;
            case 1:
            case 2:
            case 3:
            case 4:
                return tensor.shape.side(what - 1);
            case 5:
                return tensor.shape.cells();
            case 6:
                return tensor.terms;
            case 7:
                return tensor.measure.range;
            case 8:
                return tensor.measure.places;
            case 9:
                return tensor.uses;
            case 10:
                return tensor.uses == 0 ? NONE : tensor.slope.range;
            case 11:
                return tensor.uses == 0 ? NONE : tensor.slope.places;
            default:
                throw new IllegalArgumentException("nothing like that is told");
        }
    }

    public long divisor(int t, boolean slope) throws IndexOutOfBoundsException {
        Tensor tensor = tensorAt(t);
        if (tensor == null) {
            throw new IndexOutOfBoundsException("no such tensor");
        }
        if (slope) {
            return tensor.uses == 0 ? NONE : tensor.slope.odd;
        }
        return tensor.measure.odd;
    }

    public int all(int what) {
        switch (what) {
            case 0:
                return tensorCount;
            case 1:
                return indexCount;
            case 2:
                return workDone;
            case 3:
                return lossNumber;
            default:
                return NONE;
        }
    }

    private Tensor tensorAt(int t) {
        return t < 0 || t >= tensorCount || t >= tensors.length ? null : tensors[t];
    }

    private Index indexAt(int i) {
        return i < 0 || i >= indexCount || i >= indices.length ? null : indices[i];
    }

    private boolean isThere(int argument) {
        return argument < 0 ? indexAt(-1 - argument) != null : tensorAt(argument) != null;
    }

    /** The place's former tensor, gone with an earlier beginning, serves as the next draft. */
    private int keepDraft() {
        if (tensorCount < 0 || tensorCount >= tensors.length || draft.shape.isTooLarge() || draft.measure.isBeyond()) {
            return FULL;
        }
        long workThen = workDone + (long) draft.shape.cells() * draft.terms;
        if (workThen > MOST_WORK) {
            return FULL;
        }
        Tensor former = tensors[tensorCount];
        tensors[tensorCount] = draft;
        draft = former == null ? new Tensor() : former;
        workDone = (int) workThen;
        tensorCount++;
        return tensorCount - 1;
    }

    private boolean draftCellByCell(int how, Tensor left, Tensor right) {
        Tensor larger = left.shape.sides < right.shape.sides ? right : left;
        Tensor smaller = left.shape.sides < right.shape.sides ? left : right;
        draft.resemble(larger);
        draft.spreadOfFirst = timesIn(larger.shape.cells(), left.shape.cells());
        draft.spreadOfSecond = timesIn(larger.shape.cells(), right.shape.cells());
        if (how == TIMES) {
            draft.measure.multiply(smaller.measure);
            draft.handing = BY_THE_OTHER;
        } else {
            draft.measure.unite(smaller.measure);
            draft.measure.widen(1);
        }
        return larger.shape.endsWith(smaller.shape);
    }

    private boolean draftMatrixProduct(Tensor left, Tensor right) {
        Shape a = left.shape;
        Shape b = right.shape;
        if (a.sides < 1 || a.sides > 2 || b.sides < 1 || b.sides > 2 || a.side(a.sides - 1) != b.side(0)) {
            return false;
        }
        int rows = a.sides == 2 ? a.side(0) : 1;
        int columns = b.side(1);
        if (a.sides == 2) {
            draft.shape.append(rows);
        }
        if (b.sides == 2) {
            draft.shape.append(columns);
        }
        draft.spreadOfFirst = columns;
        draft.spreadOfSecond = rows;
        draftProducts(b.side(0), left, right);
        return true;
    }

    private void draftProducts(int terms, Tensor left, Tensor right) {
        draft.terms = terms;
        draft.measure.copy(left.measure);
        draft.measure.multiply(right.measure);
        draft.measure.widen(doublingsTo(terms));
        draft.handing = BY_THE_OTHER;
    }

    private static int argumentsOf(int what) {
        switch (what) {
            case RELU:
            case ABS:
            case SQUARE:
            case STEP:
            case STOP:
            case SUM:
            case MEAN:
            case HIGH:
            case POOL:
            case TOPS:
            case TURN:
            case PART:
            case PAD:
                return 1;
            case CONV:
            case JOIN:
            case PICK:
            case HINGE:
            case GAP:
                return 2;
            default:
                return 0;
        }
    }

    private static int fewestNumbersOf(int what) {
        return what == SUM || what == MEAN ? 0 : mostNumbersOf(what);
    }

    private static int mostNumbersOf(int what) {
        switch (what) {
            case SUM:
            case MEAN:
            case HIGH:
            case CONV:
            case POOL:
            case TOPS:
            case PAD:
                return 1;
            case PART:
                return 2;
            default:
                return 0;
        }
    }

    private boolean draftOfOne(int what, Tensor a, int m, int x, int y) {
        switch (what) {
            case SQUARE:
                draft.measure.multiply(a.measure);
                draft.handing = BY_ITSELF;
                return true;
            case STEP:
                draft.measure.set(1, 0, 1);
                draft.handing = NOT_AT_ALL;
                return true;
            case STOP:
                draft.handing = NOT_AT_ALL;
                return true;
            case SUM:
            case MEAN:
                return m == 0 ? draftTotal(what, a) : draftTotalAlong(what, a, x);
            case HIGH:
                return draft.shape.remove(x);
            case POOL:
            case TOPS:
                return draftSquares(what, a.shape, x);
            case TURN:
                draft.shape.set(2, a.shape.side(1), a.shape.side(0), 1, 1);
                return a.shape.sides == 2;
            case PART:
                return draftPart(a.shape, x, y);
            case PAD:
                return draftPad(a.shape, x);
            default:
                return true;
        }
    }

    private boolean draftTotal(int what, Tensor a) {
        draft.shape.clear();
        addUp(what, a.shape.cells());
        return true;
    }

    private boolean draftTotalAlong(int what, Tensor a, int side) {
        addUp(what, a.shape.side(side));
        return draft.shape.remove(side);
    }

    private void addUp(int what, int terms) {
        draft.terms = terms;
        draft.measure.widen(doublingsTo(terms));
        if (what != SUM) {
            draft.divide(terms, 1);
        }
    }

    private boolean draftSquares(int what, Shape a, int p) {
        int height = a.side(1);
        int width = a.side(2);
        if (a.sides != 3 || p < 1 || height % p != 0 || width % p != 0) {
            return false;
        }
        draft.shape.set(3, a.side(0), height / p, width / p, 1);
        if (what == POOL) {
            addUp(what, p * p);
        }
        return true;
    }

    private boolean draftPart(Shape a, int from, int to) {
        if (a.sides < 1 || from >= to || to > a.side(0)) {
            return false;
        }
        draft.shape.setFirst(to - from);
        return true;
    }

    private boolean draftPad(Shape a, int p) {
        if (a.sides != 3 || p < 1 || p > WIDEST_EDGE) {
            return false;
        }
        draft.shape.set(3, a.side(0), a.side(1) + 2 * p, a.side(2) + 2 * p, 1);
        return true;
    }

    private boolean draftOfTwo(int what, Tensor a, Tensor b, int x) {
        if (b == null) {
            return false;
        }
        switch (what) {
            case CONV:
                return draftConvolution(a, b, x);
            case JOIN:
                draft.shape.setFirst(a.shape.side(0) + b.shape.side(0));
                draft.measure.unite(b.measure);
                return a.shape.sides > 0 && a.shape.equalsBehindFirst(b.shape);
            default:
                draftGap(a, b);
                return a.shape.sides == b.shape.sides && a.shape.endsWith(b.shape);
        }
    }

    private boolean draftConvolution(Tensor image, Tensor filter, int stride) {
        Shape x = image.shape;
        Shape f = filter.shape;
        if (x.sides != 3 || f.sides != 4 || f.side(1) != x.side(0) || stride < 1 || stride > LONGEST_STRIDE) {
            return false;
        }
        if (f.side(2) > x.side(1) || f.side(3) > x.side(2)) {
            return false;
        }
        int window = f.side(2) * f.side(3);
        int height = (x.side(1) - f.side(2)) / stride + 1;
        int width = (x.side(2) - f.side(3)) / stride + 1;
        draft.shape.set(3, f.side(0), height, width, 1);
        draft.spreadOfFirst = f.side(0) * window;
        draft.spreadOfSecond = height * width;
        draftProducts(x.side(0) * window, image, filter);
        return true;
    }

    private void draftGap(Tensor a, Tensor b) {
        measureDifference(a, b);
        draft.shape.clear();
        draft.terms = a.shape.cells();
        draft.measure.copy(difference);
        draft.measure.multiply(difference);
        draft.measure.widen(doublingsTo(draft.terms));
        draft.measure.divide(2, 1);
        draft.handing = BY_THE_DIFFERENCE;
    }

    private void measureDifference(Tensor a, Tensor b) {
        difference.copy(a.measure);
        difference.unite(b.measure);
        difference.widen(1);
    }

    private boolean draftWithIndex(int what, Tensor a, Index i) {
        if (i == null) {
            return false;
        }
        int rows = a.shape.side(0);
        if (what == PICK) {
            draft.shape.setFirst(i.shape.side(0));
            draft.spreadOfFirst = i.shape.side(0);
            return a.shape.sides == 2 && i.shape.sides == 1 && i.below <= rows;
        }
        draft.shape.clear();
        draft.terms = rows;
        draft.spreadOfFirst = rows;
        draft.measure.widen(3 + doublingsTo(rows));
        return a.shape.sides == 1 && i.shape.sides == 0 && i.below <= rows;
    }

    private void forgetSlopes() {
        for (int k = 0; k < tensorCount; k++) {
            Tensor tensor = tensorAt(k);
            if (tensor != null) {
                tensor.uses = 0;
            }
        }
    }

    /** A tensor is used only in later ones: from the loss down, all its shares are there when it is looked at. */
    private boolean measureSlopes(int from) {
        for (int k = from; k >= 0; k--) {
            Tensor tensor = tensorAt(k);
            if (tensor != null && tensor.uses > 0) {
                tensor.slope.widen(doublingsTo(tensor.uses));
                if (tensor.slope.isBeyond()) {
                    return false;
                }
                Tensor first = tensorAt(tensor.first);
                Tensor second = tensorAt(tensor.second);
                handShare(tensor, first, second, tensor.spreadOfFirst);
                handShare(tensor, second, first, tensor.spreadOfSecond);
            }
        }
        return true;
    }

    private void handShare(Tensor result, Tensor argument, Tensor other, int spread) {
        if (argument == null || result.handing == NOT_AT_ALL || argument.handing == NOT_AT_ALL) {
            return;
        }
        share.copy(result.slope);
        if (result.handing == BY_ITSELF) {
            share.multiply(argument.measure);
            share.widen(1);
        } else if (result.handing == BY_A_DIVISION) {
            share.divide(result.upper, result.lower);
        } else if (result.handing == BY_THE_OTHER && other != null) {
            share.multiply(other.measure);
        } else if (result.handing == BY_THE_DIFFERENCE && other != null) {
            measureDifference(argument, other);
            share.multiply(difference);
            share.widen(1);
        }
        share.widen(doublingsTo(spread));
        argument.takeShare(share);
    }

    private boolean paramSlopesFit() {
        long multiple = 1;
        for (int k = 0; k < tensorCount; k++) {
            Tensor tensor = tensorAt(k);
            if (tensor != null && tensor.isParam && tensor.uses > 0) {
                multiple = leastCommonMultiple(multiple, tensor.slope.odd);
            }
        }
        return multiple < DIVISOR_BOUND;
    }

    private long countLimbs() {
        long limbs = 0;
        for (int k = 0; k < tensorCount; k++) {
            Tensor tensor = tensorAt(k);
            if (tensor != null) {
                int ofOneCell = tensor.measure.limbs() + (tensor.uses > 0 ? tensor.slope.limbs() : 0);
                limbs += (long) tensor.shape.cells() * ofOneCell;
            }
        }
        return limbs;
    }

    private static boolean areSides(int sides, int a, int b, int c, int d) {
        return sides >= 0 && sides <= MOST_SIDES && (sides < 1 || isSide(a)) && (sides < 2 || isSide(b))
                && (sides < 3 || isSide(c)) && (sides < 4 || isSide(d));
    }

    private static boolean isSide(int length) {
        return length >= 1 && length <= LONGEST_SIDE;
    }

    private static boolean areWholeNumbers(int m, int x, int y) {
        return m >= 0 && m <= 2 && (m < 1 || x >= 0) && (m < 2 || y >= 0);
    }

    private static boolean areInLeastTerms(int u, int l) {
        return greatestCommonDivisor(u, l) == 1;
    }

    /** The least k with n below 2^k. */
    private static int bitsOf(int n) {
        int k = 0;
        while (k < 31 && (n >> k) > 0) {
            k++;
        }
        return k;
    }

    /** The least k with 2^k not below n. */
    private static int doublingsTo(int n) {
        return bitsOf(n - 1);
    }

    private static int twosIn(int n) {
        int k = 0;
        while (k < 31 && ((n >> k) & 1) == 0) {
            k++;
        }
        return k;
    }

    private static int timesIn(int whole, int part) {
        return part < 1 ? 0 : whole / part;
    }

    private static long greatestCommonDivisor(long a, long b) {
        long x = a;
        long y = b;
        // Numbers below 2^63 need fewer than a hundred divisions.
        for (int k = 0; k < 128 && y != 0; k++) {
            long rest = x % y;
            x = y;
            y = rest;
        }
        return x;
    }

    /** Of numbers from 1 to the bound; the bound stands for all that is not below it. */
    private static long productBelowBound(long a, long b) {
        if (a < 1 || b < 1 || a > (DIVISOR_BOUND - 1) / b) {
            return DIVISOR_BOUND;
        }
        return a * b;
    }

    private static long leastCommonMultiple(long a, long b) {
        long common = greatestCommonDivisor(a, b);
        return common < 1 ? DIVISOR_BOUND : productBelowBound(a / common, b);
    }

    private static final class Index {
        final Shape shape = new Shape();
        int below;
    }

    private static final class Tensor {
        final Shape shape = new Shape();
        final Measure measure = new Measure();
        final Measure slope = new Measure();
        boolean isParam;
        int terms;
        int first;
        int second;
        int spreadOfFirst;
        int spreadOfSecond;
        int handing;
        int upper;
        int lower;
        int uses;

        void start(int firstArgument, int secondArgument) {
            shape.clear();
            isParam = false;
            terms = 1;
            first = firstArgument;
            second = secondArgument;
            spreadOfFirst = 1;
            spreadOfSecond = 1;
            handing = AS_IT_IS;
            upper = 1;
            lower = 1;
            uses = 0;
        }

        void resemble(Tensor other) {
            shape.copy(other.shape);
            measure.copy(other.measure);
        }

        void divide(int u, int l) {
            measure.divide(u, l);
            handing = BY_A_DIVISION;
            upper = u;
            lower = l;
        }

        void takeShare(Measure part) {
            if (uses == 0) {
                slope.copy(part);
            } else {
                slope.unite(part);
            }
            uses++;
        }
    }

    private static final class Shape {
        private final int[] lengths = new int[MOST_SIDES];
        int sides = 0;

        void clear() {
            sides = 0;
        }

        void append(int length) {
            if (sides >= 0 && sides < lengths.length) {
                lengths[sides] = length;
                sides++;
            }
        }

        void set(int count, int a, int b, int c, int d) {
            lengths[0] = a;
            lengths[1] = b;
            lengths[2] = c;
            lengths[3] = d;
            sides = count;
        }

        void setFirst(int length) {
            lengths[0] = length;
        }

        void copy(Shape other) {
            set(other.sides, other.side(0), other.side(1), other.side(2), other.side(3));
        }

        /** Whether there was such a side. */
        boolean remove(int side) {
            if (side < 0 || side >= sides) {
                return false;
            }
            for (int k = side; k + 1 < sides && k + 1 < lengths.length; k++) {
                lengths[k] = lengths[k + 1];
            }
            sides--;
            return true;
        }

        /** 1 for a side that is not there. */
        int side(int k) {
            return k < 0 || k >= sides || k >= lengths.length ? 1 : lengths[k];
        }

        /** One above the most for all that is above it: four longest sides have more cells than an int can tell. */
        int cells() {
            long cells = 1;
            for (int k = 0; k < sides && cells <= MOST_CELLS; k++) {
                cells *= side(k);
            }
            return cells > MOST_CELLS ? MOST_CELLS + 1 : (int) cells;
        }

        boolean isTooLarge() {
            for (int k = 0; k < sides; k++) {
                if (side(k) > LONGEST_SIDE) {
                    return true;
                }
            }
            return cells() > MOST_CELLS;
        }

        boolean endsWith(Shape other) {
            int skipped = sides - other.sides;
            for (int k = 0; k < other.sides; k++) {
                if (skipped < 0 || side(skipped + k) != other.side(k)) {
                    return false;
                }
            }
            return true;
        }

        boolean equalsBehindFirst(Shape other) {
            return sides == other.sides && side(1) == other.side(1) && side(2) == other.side(2)
                    && side(3) == other.side(3);
        }
    }

    /** How wide exact numbers can be: below 2^range, multiples of 1 / (2^places odd). */
    private static final class Measure {
        int range = 0;
        int places = 0;
        long odd = 1;

        void set(int r, int e, long q) {
            range = r;
            places = e;
            odd = q;
        }

        void copy(Measure other) {
            set(other.range, other.places, other.odd);
        }

        void widen(int bits) {
            range += bits;
        }

        void multiply(Measure other) {
            set(range + other.range, places + other.places, productBelowBound(odd, other.odd));
        }

        void divide(int u, int l) {
            int twos = twosIn(u);
            set(range + bitsOf(l), places + twos, productBelowBound(odd, u >> twos));
        }

        void unite(Measure other) {
            set(Math.max(range, other.range), Math.max(places, other.places), leastCommonMultiple(odd, other.odd));
        }

        boolean isBeyond() {
            return range > WIDEST || places > WIDEST || odd >= DIVISOR_BOUND;
        }

        int limbs() {
            return (range + places + 64 + 31) / 32;
        }
    }
}
