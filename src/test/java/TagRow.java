import java.math.BigInteger;
import java.util.function.UnaryOperator;

/** A nonce (with key 0) and 16 bytes to add, solved for so that the tag's number H is the one wanted. */
final class TagRow {
    static final BigInteger TWO_128 = BigInteger.ONE.shiftLeft(128);

    private static final BigInteger MODULUS = BigInteger.ONE.shiftLeft(130).subtract(BigInteger.valueOf(5));
    private static final BigInteger COUNTS = TWO_128.add(BigInteger.valueOf(16));
    private static final int NONCES = 1000;

    final int[] nonce;
    final byte[] added;
    final byte[] tag;

    private TagRow(int[] nonce, byte[] added, byte[] tag) {
        this.nonce = nonce;
        this.added = added;
        this.tag = tag;
    }

    /** What H is wanted may hang on S, which the nonce brings. */
    static TagRow solve(UnaryOperator<BigInteger> wanted) {
        for (int i = 0; i < NONCES; i++) {
            int[] nonce = {i, 0, 0};
            byte[] block = Oracle.blockZero(new int[8], nonce);
            BigInteger addend = numberOf(block, 16);
            BigInteger hash = wanted.apply(addend).mod(MODULUS);
            BigInteger row = rowFor(hash, factorOf(block));
            if (row.compareTo(TWO_128) < 0) {
                return new TagRow(nonce, bytesOf(row), bytesOf(hash.add(addend)));
            }
        }
        throw new IllegalStateException("no row was found");
    }

    /** The tag has 16 bytes 0. */
    static TagRow ofTagZero() {
        return solve(addend -> TWO_128.subtract(addend));
    }

    AeadBox begun(int dir) {
        AeadBox box = new AeadBox(0);
        beginAgain(box, dir);
        return box;
    }

    /** In a box that is IDLE; up to the byte that is added last. */
    void beginAgain(AeadBox box, int dir) {
        Boxes.setWords(box, new int[8], nonce);
        box.begin(dir);
        Boxes.addAll(box, added);
    }

    /** The row m for which ((m + 2^128) R + counts) R is H; it fits 16 bytes one time in four. */
    private static BigInteger rowFor(BigInteger hash, BigInteger factor) {
        BigInteger inverse = factor.modInverse(MODULUS);
        BigInteger chunk = hash.multiply(inverse).subtract(COUNTS).multiply(inverse);
        return chunk.subtract(TWO_128).mod(MODULUS);
    }

    private static BigInteger factorOf(byte[] block) {
        return numberOf(block, 0).and(new BigInteger("0ffffffc0ffffffc0ffffffc0fffffff", 16));
    }

    private static BigInteger numberOf(byte[] bytes, int from) {
        BigInteger number = BigInteger.ZERO;
        for (int i = from + 15; i >= from; i--) {
            number = number.shiftLeft(8).add(BigInteger.valueOf(bytes[i] & 255));
        }
        return number;
    }

    private static byte[] bytesOf(BigInteger number) {
        byte[] bytes = new byte[16];
        for (int i = 0; i < 16; i++) {
            bytes[i] = number.shiftRight(8 * i).byteValue();
        }
        return bytes;
    }
}
