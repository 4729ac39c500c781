import java.math.BigInteger;

/** The links as the document tells them, in numbers that don't wrap around by themselves. */
final class Links {
    private static final BigInteger FACTOR = new BigInteger("7046029254386353131");
    private static final BigInteger TWO_TO_64 = BigInteger.ONE.shiftLeft(64);

    private Links() {
    }

    /** The link behind numbers mixed in turn into the one before. */
    static long behind(long before, long... numbers) {
        long x = before;
        for (long number : numbers) {
            x = mix(x, number);
        }
        return x;
    }

    static long mix(long x, long it) {
        BigInteger product = unsigned(x).xor(unsigned(it)).multiply(FACTOR).mod(TWO_TO_64);
        return product.xor(product.shiftRight(29)).longValue();
    }

    /** What has to be mixed so that the multiplication gives the product. */
    static long beforeProduct(long product) {
        return unsigned(product).multiply(FACTOR.modInverse(TWO_TO_64)).mod(TWO_TO_64).longValue();
    }

    /** What has to be mixed so that mixing gives the link. */
    static long unmix(long link) {
        BigInteger whole = unsigned(link);
        return beforeProduct(whole.xor(whole.shiftRight(29)).xor(whole.shiftRight(58)).longValue());
    }

    private static BigInteger unsigned(long x) {
        return BigInteger.valueOf(x).mod(TWO_TO_64);
    }
}
