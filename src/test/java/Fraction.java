import java.math.BigInteger;

/** An exact fraction in lowest terms with a positive denominator. */
final class Fraction {
    static final Fraction ZERO = of(0);
    static final Fraction ONE = of(1);

    final BigInteger top;
    final BigInteger bottom;

    private Fraction(BigInteger top, BigInteger bottom) {
        BigInteger shared = top.gcd(bottom);
        if (bottom.signum() < 0) {
            shared = shared.negate();
        }
        this.top = top.divide(shared);
        this.bottom = bottom.divide(shared);
    }

    static Fraction of(long whole) {
        return new Fraction(BigInteger.valueOf(whole), BigInteger.ONE);
    }

    Fraction plus(Fraction other) {
        return new Fraction(top.multiply(other.bottom).add(other.top.multiply(bottom)), bottom.multiply(other.bottom));
    }

    Fraction minus(Fraction other) {
        return plus(other.times(of(-1)));
    }

    Fraction times(Fraction other) {
        return new Fraction(top.multiply(other.top), bottom.multiply(other.bottom));
    }

    Fraction over(Fraction other) {
        return new Fraction(top.multiply(other.bottom), bottom.multiply(other.top));
    }

    boolean isZero() {
        return top.signum() == 0;
    }

    int compareTo(Fraction other) {
        return minus(other).top.signum();
    }

    long side(int what) {
        return what == 0 ? top.longValueExact() : bottom.longValueExact();
    }
}
