import java.math.BigInteger;

/** An exact fraction, for the second program that the first one is held against. */
record Fraction(BigInteger over, BigInteger under) implements Comparable<Fraction> {
    static final Fraction ZERO = of(0);
    static final Fraction ONE = of(1);

    static Fraction of(long n) {
        return new Fraction(BigInteger.valueOf(n), BigInteger.ONE);
    }

    static Fraction of(double d) {
        java.math.BigDecimal exact = new java.math.BigDecimal(d);
        return exact.scale() > 0
                ? make(exact.unscaledValue(), BigInteger.TEN.pow(exact.scale()))
                : make(exact.toBigIntegerExact(), BigInteger.ONE);
    }

    private static Fraction make(BigInteger over, BigInteger under) {
        BigInteger common = over.gcd(under);
        if (under.signum() < 0) {
            common = common.negate();
        }
        return new Fraction(over.divide(common), under.divide(common));
    }

    Fraction plus(Fraction f) {
        return make(over.multiply(f.under).add(f.over.multiply(under)), under.multiply(f.under));
    }

    Fraction minus(Fraction f) {
        return make(over.multiply(f.under).subtract(f.over.multiply(under)), under.multiply(f.under));
    }

    Fraction times(Fraction f) {
        return make(over.multiply(f.over), under.multiply(f.under));
    }

    Fraction by(Fraction f) {
        return make(over.multiply(f.under), under.multiply(f.over));
    }

    Fraction half() {
        return make(over, under.shiftLeft(1));
    }

    int sign() {
        return over.signum();
    }

    BigInteger down() {
        BigInteger[] parts = over.divideAndRemainder(under);
        return parts[1].signum() < 0 ? parts[0].subtract(BigInteger.ONE) : parts[0];
    }

    @Override
    public int compareTo(Fraction f) {
        return over.multiply(f.under).compareTo(f.over.multiply(under));
    }
}
