import java.math.BigInteger;

/** An exact fraction in lowest terms, the lower part above 0, on the Java library's integers. */
record Fraction(BigInteger up, BigInteger low) {
    static final Fraction ZERO = of(0);

    static Fraction of(long v) {
        return of(BigInteger.valueOf(v), BigInteger.ONE);
    }

    static Fraction of(BigInteger up, BigInteger low) {
        BigInteger g = up.gcd(low);
        BigInteger d = low.signum() < 0 ? g.negate() : g;
        return new Fraction(up.divide(d), low.divide(d));
    }

    static Fraction of(double v) {
        java.math.BigDecimal exact = new java.math.BigDecimal(v);
        return of(exact.unscaledValue(), BigInteger.ONE).times(tens(-exact.scale()));
    }

    static Fraction power(int base, int n) {
        BigInteger p = BigInteger.valueOf(base).pow(Math.abs(n));
        return n < 0 ? of(BigInteger.ONE, p) : of(p, BigInteger.ONE);
    }

    static Fraction tens(int n) {
        return power(10, n);
    }

    Fraction plus(Fraction o) {
        return of(up.multiply(o.low).add(o.up.multiply(low)), low.multiply(o.low));
    }

    Fraction minus(Fraction o) {
        return plus(o.negated());
    }

    Fraction times(Fraction o) {
        return of(up.multiply(o.up), low.multiply(o.low));
    }

    Fraction by(Fraction o) {
        return of(up.multiply(o.low), low.multiply(o.up));
    }

    Fraction negated() {
        return new Fraction(up.negate(), low);
    }

    Fraction amount() {
        return new Fraction(up.abs(), low);
    }

    int sign() {
        return up.signum();
    }

    int order(Fraction o) {
        return up.multiply(o.low).compareTo(o.up.multiply(low));
    }

    BigInteger floor() {
        BigInteger[] q = up.divideAndRemainder(low);
        return q[1].signum() < 0 ? q[0].subtract(BigInteger.ONE) : q[0];
    }

    /** The nearest integer, of two the even one. */
    BigInteger rounded() {
        BigInteger below = floor();
        int half = minus(of(below, BigInteger.ONE)).order(of(BigInteger.ONE, BigInteger.TWO));
        boolean upwards = half > 0 || half == 0 && below.testBit(0);
        return upwards ? below.add(BigInteger.ONE) : below;
    }
}
