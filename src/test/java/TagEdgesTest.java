import java.math.BigInteger;
import java.util.Arrays;
import java.util.function.UnaryOperator;

/**
 * Tags whose number H comes out next to 0, next to the modulus, or where a carry begins, and
 * would go wrong unseen: 16 bytes to add are solved for so that H is the one wanted.
 */
public final class TagEdgesTest extends Tests {
    private static final BigInteger TWO_128 = BigInteger.ONE.shiftLeft(128);
    private static final BigInteger MODULUS = BigInteger.ONE.shiftLeft(130).subtract(BigInteger.valueOf(5));
    private static final BigInteger COUNTS = TWO_128.add(BigInteger.valueOf(16));
    private static final int NONCES = 1000;

    public static void main(String[] args) throws IllegalAccessException {
        new TagEdgesTest().runAll();
    }

    /** From the modulus less 8 over the modulus, which counts 0, to 8. */
    void hashNextToZeroAndToTheModulus() {
        for (int near = -8; near <= 8; near++) {
            hashIs(BigInteger.valueOf(near));
        }
    }

    /** From 2 to the 128 on, H has more than the tag's 16 bytes. */
    void hashNextToSixteenBytes() {
        for (int near = -8; near <= 8; near++) {
            hashIs(TWO_128.add(BigInteger.valueOf(near)));
            hashIs(TWO_128.shiftLeft(1).add(BigInteger.valueOf(near)));
        }
    }

    void hashOfOneBit() {
        for (int bit = 0; bit < 130; bit++) {
            hashIs(BigInteger.ONE.shiftLeft(bit));
        }
    }

    void hashOneBitBelowTheModulus() {
        for (int bit = 0; bit < 130; bit++) {
            hashIs(BigInteger.ONE.shiftLeft(bit).negate());
        }
    }

    /** What goes over the 16 bytes when S is added is left out. */
    void sumOfHAndSNextToGoingOver() {
        for (int near = -2; near <= 2; near++) {
            BigInteger sum = TWO_128.add(BigInteger.valueOf(near));
            solve("H and S are " + sum, addend -> sum.subtract(addend));
        }
    }

    private void hashIs(BigInteger hash) {
        solve("H is " + hash, addend -> hash);
    }

    /** Looks for a nonce by which a row has the H that is wanted with its S, and tries the box on it. */
    private void solve(String aim, UnaryOperator<BigInteger> wanted) {
        int[] nonce = new int[3];
        for (nonce[0] = 0; nonce[0] < NONCES; nonce[0]++) {
            byte[] block = Oracle.blockZero(new int[8], nonce);
            BigInteger addend = numberOf(block, 16);
            BigInteger hash = wanted.apply(addend).mod(MODULUS);
            BigInteger row = rowFor(hash, factorOf(block));
            if (row.compareTo(TWO_128) < 0) {
                dueTagOf(aim, nonce, row, hash.add(addend));
                return;
            }
        }
        due("a row was found so that " + aim, false, true);
    }

    /** The row m for which ((m + 2^128) R + counts) R is H; it fits 16 bytes one time in four. */
    private static BigInteger rowFor(BigInteger hash, BigInteger factor) {
        BigInteger inverse = factor.modInverse(MODULUS);
        BigInteger chunk = hash.multiply(inverse).subtract(COUNTS).multiply(inverse);
        return chunk.subtract(TWO_128).mod(MODULUS);
    }

    private static BigInteger factorOf(byte[] block) {
        return numberOf(block, 0).and(new BigInteger("0ffffffc0ffffffc0ffffffc0fffffff", 16));
    }

    private static BigInteger numberOf(byte[] bytes, int from) {
        BigInteger number = BigInteger.ZERO;
        for (int i = from + 15; i >= from; i--) {
            number = number.shiftLeft(8).add(BigInteger.valueOf(bytes[i] & 255));
        }
        return number;
    }

    private void dueTagOf(String aim, int[] nonce, BigInteger row, BigInteger tag) {
        AeadBox box = new AeadBox(0);
        Boxes.setWords(box, new int[8], nonce);
        box.begin(Boxes.TO_SEAL);
        Boxes.putIn(box, bytesOf(row), Boxes.NO_ROW);
        due("the row and the tag are right where " + aim, isTagOfOracle(nonce, row, tag), true);
        dueTag(box, bytesOf(tag));
    }

    /** That the solving is right is seen by the JDK's cipher. */
    private static boolean isTagOfOracle(int[] nonce, BigInteger row, BigInteger tag) {
        byte[] due = Oracle.tagOf(new int[8], nonce, bytesOf(row), Boxes.NO_ROW);
        return Arrays.equals(due, bytesOf(tag));
    }

    private static byte[] bytesOf(BigInteger number) {
        byte[] bytes = new byte[16];
        for (int i = 0; i < 16; i++) {
            bytes[i] = number.shiftRight(8 * i).byteValue();
        }
        return bytes;
    }
}
