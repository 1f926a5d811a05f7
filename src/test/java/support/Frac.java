import java.math.BigInteger;

/** An exact fraction in lowest terms. */
final class Frac implements Comparable<Frac> {
    static final Frac ZERO = of(0);

    final BigInteger above;
    final BigInteger below;

    private Frac(BigInteger above, BigInteger below) {
        BigInteger common = above.gcd(below);
        if (below.signum() < 0) {
            common = common.negate();
        }
        this.above = above.divide(common);
        this.below = below.divide(common);
    }

    static Frac of(long n) {
        return new Frac(BigInteger.valueOf(n), BigInteger.ONE);
    }

    Frac plus(Frac other) {
        return new Frac(above.multiply(other.below).add(other.above.multiply(below)), below.multiply(other.below));
    }

    Frac minus(Frac other) {
        return plus(other.times(-1));
    }

    Frac times(long n) {
        return new Frac(above.multiply(BigInteger.valueOf(n)), below);
    }

    Frac over(long n) {
        return new Frac(above, below.multiply(BigInteger.valueOf(n)));
    }

    Frac min(Frac other) {
        return compareTo(other) <= 0 ? this : other;
    }

    int sign() {
        return above.signum();
    }

    @Override
    public int compareTo(Frac other) {
        return above.multiply(other.below).compareTo(other.above.multiply(below));
    }

    @Override
    public String toString() {
        return above + "/" + below;
    }
}
