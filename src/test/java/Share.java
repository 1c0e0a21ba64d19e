import java.math.BigInteger;

/** An exact fraction, always in its lowest terms. */
record Share(BigInteger upper, BigInteger lower) {
    static final Share NOTHING = of(0, 1);
    static final Share WHOLE = of(1, 1);
    private static final BigInteger PRIME = BigInteger.valueOf(1000003);

    Share {
        BigInteger common = upper.gcd(lower);
        upper = upper.divide(common);
        lower = lower.divide(common);
    }

    static Share of(long upper, long lower) {
        return new Share(BigInteger.valueOf(upper), BigInteger.valueOf(lower));
    }

    Share plus(Share other) {
        return new Share(upper.multiply(other.lower).add(other.upper.multiply(lower)),
                lower.multiply(other.lower));
    }

    Share times(Share other) {
        return new Share(upper.multiply(other.upper), lower.multiply(other.lower));
    }

    Share over(Share other) {
        return new Share(upper.multiply(other.lower), lower.multiply(other.upper));
    }

    /** As the document tells a fraction. */
    int told() {
        return upper.multiply(lower.modInverse(PRIME)).mod(PRIME).intValueExact();
    }
}
