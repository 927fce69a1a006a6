import java.math.BigInteger;

/** A fraction in least terms, the lower part 1 and more. */
record Fraction(BigInteger above, BigInteger under) implements Comparable<Fraction> {
    static final Fraction ZERO = of(0, 1);
    static final Fraction ONE = of(1, 1);

    static Fraction of(long above, long under) {
        return of(BigInteger.valueOf(above), BigInteger.valueOf(under));
    }

    static Fraction of(BigInteger above, BigInteger under) {
        BigInteger divisor = above.gcd(under);
        if (under.signum() < 0) {
            divisor = divisor.negate();
        }
        return new Fraction(above.divide(divisor), under.divide(divisor));
    }

    Fraction plus(Fraction other) {
        return of(above.multiply(other.under).add(other.above.multiply(under)), under.multiply(other.under));
    }

    Fraction minus(Fraction other) {
        return plus(of(other.above.negate(), other.under));
    }

    Fraction times(Fraction other) {
        return of(above.multiply(other.above), under.multiply(other.under));
    }

    Fraction by(Fraction other) {
        return of(above.multiply(other.under), under.multiply(other.above));
    }

    Fraction times(long number) {
        return times(of(number, 1));
    }

    Fraction by(long number) {
        return by(of(number, 1));
    }

    @Override
    public int compareTo(Fraction other) {
        return above.multiply(other.under).compareTo(other.above.multiply(under));
    }

    long told(boolean upper) {
        return (upper ? above : under).longValueExact();
    }
}
