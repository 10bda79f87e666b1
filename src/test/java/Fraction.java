import java.math.BigInteger;

/** An exact number, in least terms; what stands below is above 0. */
record Fraction(BigInteger above, BigInteger below) {
    static final Fraction ZERO = of(0, 1), ONE = of(1, 1);

    static Fraction of(long u, long l) {
        return least(BigInteger.valueOf(u), BigInteger.valueOf(l));
    }

    /** u / 2^e. */
    static Fraction places(BigInteger u, int e) {
        return least(u, BigInteger.ONE.shiftLeft(e));
    }

    private static Fraction least(BigInteger u, BigInteger l) {
        BigInteger common = u.gcd(l);
        return new Fraction(u.divide(common), l.divide(common));
    }

    Fraction plus(Fraction o) {
        if (below.equals(o.below) && below.equals(BigInteger.ONE)) {
            return new Fraction(above.add(o.above), below);
        }
        return least(above.multiply(o.below).add(o.above.multiply(below)), below.multiply(o.below));
    }

    Fraction times(Fraction o) {
        return least(above.multiply(o.above), below.multiply(o.below));
    }

    Fraction negative() {
        return new Fraction(above.negate(), below);
    }

    Fraction minus(Fraction o) {
        return plus(o.negative());
    }

    int sign() {
        return above.signum();
    }

    boolean isAbove(Fraction o) {
        return minus(o).sign() > 0;
    }

    /** Whether it is below 2^r and above -2^r. */
    boolean isWithin(int r) {
        return above.abs().compareTo(below.shiftLeft(r)) < 0;
    }

    /** Whether it is a whole number of 1 / (2^e q). */
    boolean isMultiple(int e, long q) {
        return BigInteger.valueOf(q).shiftLeft(e).mod(below).signum() == 0;
    }
}
