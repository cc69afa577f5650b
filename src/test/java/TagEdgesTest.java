import java.math.BigInteger;

/**
 * Tags whose number H comes out next to 0 or next to the modulus, where a carry or the last
 * reduction would go wrong unseen: 16 bytes to add are solved for so that H is the one wanted.
 */
public final class TagEdgesTest {
    private static final BigInteger TWO_128 = BigInteger.ONE.shiftLeft(128);
    private static final BigInteger MODULUS = BigInteger.ONE.shiftLeft(130).subtract(BigInteger.valueOf(5));
    private static final BigInteger COUNTS = TWO_128.add(BigInteger.valueOf(16));
    private static final int NONCES = 1000;

    private final Check check = new Check();

    public static void main(String[] args) {
        TagEdgesTest test = new TagEdgesTest();
        for (int near = -8; near <= 8; near++) {
            test.hashIs(BigInteger.valueOf(near));
            test.hashIs(TWO_128.add(BigInteger.valueOf(near)));
        }
        for (int bit = 4; bit < 130; bit++) {
            test.hashIs(BigInteger.ONE.shiftLeft(bit));
            test.hashIs(BigInteger.ONE.shiftLeft(bit).negate());
        }
        test.check.end();
    }

    private void hashIs(BigInteger wanted) {
        BigInteger hash = wanted.mod(MODULUS);
        int[] nonce = new int[3];
        for (nonce[0] = 0; nonce[0] < NONCES; nonce[0]++) {
            byte[] block = Oracle.blockZero(new int[8], nonce);
            BigInteger row = rowFor(hash, factorOf(block));
            if (row.signum() >= 0 && row.compareTo(TWO_128) < 0) {
                dueTag(nonce, row, hash.add(numberOf(block, 16)));
                return;
            }
        }
        check.due("a row was found for H " + hash, false, true);
    }

    /** The row m for which ((m + 2^128) R + counts) R is H; it fits 16 bytes one time in four. */
    private static BigInteger rowFor(BigInteger hash, BigInteger factor) {
        BigInteger inverse = factor.modInverse(MODULUS);
        BigInteger chunk = hash.multiply(inverse).subtract(COUNTS).multiply(inverse);
        return chunk.subtract(TWO_128).mod(MODULUS);
    }

    private static BigInteger factorOf(byte[] block) {
        return numberOf(block, 0).and(new BigInteger("0ffffffc0ffffffc0ffffffc0fffffff", 16));
    }

    private static BigInteger numberOf(byte[] bytes, int from) {
        BigInteger number = BigInteger.ZERO;
        for (int i = from + 15; i >= from; i--) {
            number = number.shiftLeft(8).add(BigInteger.valueOf(bytes[i] & 255));
        }
        return number;
    }

    private void dueTag(int[] nonce, BigInteger row, BigInteger tag) {
        AeadBox box = new AeadBox(0);
        box.setNonceWord(0, nonce[0]);
        box.begin(Boxes.TO_SEAL);
        for (int i = 0; i < 16; i++) {
            box.aad(byteOf(row, i));
        }
        box.finish();
        for (int i = 0; i < 16; i++) {
            check.due("nonce " + nonce[0] + ", row " + row + ": tag(" + i + ")", box.tag(i), byteOf(tag, i));
        }
    }

    private static int byteOf(BigInteger number, int i) {
        return number.shiftRight(8 * i).intValue() & 255;
    }
}
