import java.math.BigInteger;

/** The document's MIX, SEAL and sealed values once more, by numbers without an end. */
final class Formulas {
    private static final BigInteger TWO_64 = BigInteger.ONE.shiftLeft(64);

    private Formulas() {
    }

    static BigInteger unsigned(long v) {
        return BigInteger.valueOf(v).mod(TWO_64);
    }

    static BigInteger mix(BigInteger x) {
        BigInteger y = x.xor(x.shiftRight(29)).multiply(new BigInteger("9e3779b97f4a7c15", 16)).mod(TWO_64);
        y = y.xor(y.shiftRight(32)).multiply(new BigInteger("d6e8feb86659fd93", 16)).mod(TWO_64);
        return y.xor(y.shiftRight(29));
    }

    /** K of entry j of class c. */
    static BigInteger sealOf(long key, int c, int j) {
        return mix(mix(unsigned(key).add(BigInteger.valueOf(c)).mod(TWO_64)).xor(BigInteger.valueOf(j + 1)));
    }

    /** How far a number of so many bits is turned. */
    static int turnOf(BigInteger k, int bits) {
        return k.shiftRight(bits == 32 ? 59 : 58).intValue();
    }

    static BigInteger closed(long v, BigInteger k, int bits) {
        BigInteger room = BigInteger.ONE.shiftLeft(bits);
        BigInteger m = mix(k).setBit(0).mod(room);
        BigInteger product = unsigned(v).mod(room).xor(k.mod(room)).multiply(m).mod(room);
        int turn = turnOf(k, bits);
        return product.shiftLeft(turn).or(product.shiftRight(bits - turn)).mod(room);
    }
}
