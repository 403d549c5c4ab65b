import java.math.BigInteger;

/** A fraction in least terms, its sign above. */
record Fraction(long above, long below) {
    static Fraction of(long above, long below) {
        long common = BigInteger.valueOf(above).gcd(BigInteger.valueOf(below)).longValue();
        return new Fraction(above / common, below / common);
    }
}
