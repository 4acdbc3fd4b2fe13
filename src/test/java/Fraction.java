import java.math.BigInteger;

/** An exact fraction in lowest terms, its lower number above 0. */
final class Fraction {
    static final Fraction ZERO = of(0);
    static final Fraction ONE = of(1);
    final BigInteger upper;
    final BigInteger lower;

    Fraction(BigInteger upper, BigInteger lower) {
        BigInteger shared = upper.gcd(lower);
        if (lower.signum() < 0) {
            shared = shared.negate();
        }
        this.upper = upper.divide(shared);
        this.lower = lower.divide(shared);
    }

    static Fraction of(long n) {
        return new Fraction(BigInteger.valueOf(n), BigInteger.ONE);
    }

    boolean isZero() {
        return upper.signum() == 0;
    }

    Fraction plus(Fraction other) {
        return new Fraction(upper.multiply(other.lower).add(other.upper.multiply(lower)),
                lower.multiply(other.lower));
    }

    Fraction minus(Fraction other) {
        return plus(of(-1).by(other));
    }

    Fraction by(Fraction other) {
        return new Fraction(upper.multiply(other.upper), lower.multiply(other.lower));
    }

    Fraction over(Fraction other) {
        return new Fraction(upper.multiply(other.lower), lower.multiply(other.upper));
    }

    /** The number, if it is whole and a long; else it is the reference that is wrong. */
    long whole() {
        if (!lower.equals(BigInteger.ONE)) {
            throw new IllegalStateException("not whole: " + upper + "/" + lower);
        }
        return upper.longValueExact();
    }
}
