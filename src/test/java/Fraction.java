import java.math.BigInteger;

/** An exact fraction in lowest terms, by the library's numbers, to hold against the house's own. */
final class Fraction implements Comparable<Fraction> {
    static final Fraction ZERO = of(0, 1);
    static final Fraction ONE = of(1, 1);

    final BigInteger top;
    final BigInteger bottom;

    Fraction(BigInteger top, BigInteger bottom) {
        BigInteger common = top.gcd(bottom);
        if (bottom.signum() < 0) {
            common = common.negate();
        }
        this.top = top.divide(common);
        this.bottom = bottom.divide(common);
    }

    static Fraction of(long top, long bottom) {
        return new Fraction(BigInteger.valueOf(top), BigInteger.valueOf(bottom));
    }

    Fraction plus(Fraction other) {
        return new Fraction(top.multiply(other.bottom).add(other.top.multiply(bottom)), bottom.multiply(other.bottom));
    }

    Fraction minus(Fraction other) {
        return plus(other.times(of(-1, 1)));
    }

    Fraction times(Fraction other) {
        return new Fraction(top.multiply(other.top), bottom.multiply(other.bottom));
    }

    Fraction max(Fraction other) {
        return compareTo(other) >= 0 ? this : other;
    }

    @Override
    public int compareTo(Fraction other) {
        return top.multiply(other.bottom).compareTo(other.top.multiply(bottom));
    }

    @Override
    public String toString() {
        return top + " / " + bottom;
    }
}
