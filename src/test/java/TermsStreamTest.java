import java.util.Arrays;
import java.util.HexFormat;

/** The terms: THE STREAM, its words that go round, its blocks 1, 2, ... and their borders. */
public final class TermsStreamTest extends Tests {
    private static final int BLOCK = 64;

    public static void main(String[] args) throws IllegalAccessException {
        new TermsStreamTest().runAll();
    }

    /** RFC 8439, A.1, example 2: written out, so that the stream stands without the JDK's too. */
    void blockOneOfKeyZero() {
        dueBlock(1, new int[8], "9f07e7be5551387a98ba977c732d080dcb0f29a048e3656912c6533e32ee7aed"
            + "29b721769ce64e43d57133b074d839d531ed1f28510afb45ace10a1f4b794d6f");
    }

    /** RFC 8439, A.1, example 3: the key's last byte is 1, the highest of its last word. */
    void blockOneOfKeyWithItsLastByteOne() {
        dueBlock(1, new int[] {0, 0, 0, 0, 0, 0, 0, 0x01000000},
            "3aeb5224ecf849929b9d828db1ced4dd832025e8018b8160b82284f3c949aa5a"
            + "8eca00bbb4a73bdad192b5c42f73f2fd4e273644c8b36125a64addeb006c13a0");
    }

    /** RFC 8439, A.1, example 4: the key's second byte is 255, and the block is the second. */
    void blockTwoOfKeyWithItsSecondByte255() {
        dueBlock(2, new int[] {0x0000FF00, 0, 0, 0, 0, 0, 0, 0},
            "72d54dfbf12ec44b362692df94137f328fea8da73990265ec1bbbea1ae9af0ca"
            + "13b25aa26cb4a648cb9b9d1be65b2c0924a66c54d545ec1b7374f4872e99f096");
    }

    void sumsGoRoundWithTheLargestWords() {
        dueStream(wordsOf(8, -1), wordsOf(3, -1));
        dueStream(wordsOf(8, Integer.MAX_VALUE), wordsOf(3, Integer.MAX_VALUE));
    }

    void sumsGoRoundWithTheHighestBitAlone() {
        dueStream(wordsOf(8, Integer.MIN_VALUE), wordsOf(3, Integer.MIN_VALUE));
    }

    /** A first word's sum that is just 2 to the 32, one less, and one more. */
    void sumsGoRoundAtTheEdge() {
        for (int edge = -1; edge <= 1; edge++) {
            int[] key = new int[8];
            key[0] = edge - 0x61707865;
            key[1] = edge - 0x3320646E;
            key[2] = edge - 0x79622D32;
            key[3] = edge - 0x6B206574;
            dueStream(key, new int[3]);
        }
    }

    void eachWordLargestAlone() {
        for (int i = 0; i < 8; i++) {
            int[] key = new int[8];
            key[i] = -1;
            dueStream(key, new int[3]);
        }
        for (int i = 0; i < 3; i++) {
            int[] nonce = new int[3];
            nonce[i] = -1;
            dueStream(new int[8], nonce);
        }
    }

    void dataUpToEachBorderOfABlockAndPastIt() {
        for (int border = BLOCK; border <= 6 * BLOCK; border += BLOCK) {
            for (int length = border - 1; length <= border + 1; length++) {
                dueSealed(length);
                dueOpened(length);
            }
        }
    }

    void aByteAtATimeAcrossTheFirstBorder() {
        AeadBox box = Boxes.begun(66, Boxes.TO_SEAL);
        byte[] stream = Boxes.crossed(new byte[66]);
        for (int i = 0; i < 66; i++) {
            due("data(0) at " + i, box.data(0), stream[i] & 255);
        }
    }

    void callsBetweenTheBytesDoNotMoveTheStream() {
        AeadBox box = Boxes.begun(66, Boxes.TO_SEAL);
        byte[] stream = Boxes.crossed(new byte[66]);
        for (int i = 0; i < 66; i++) {
            box.data(-1);
            box.begin(0);
            box.out(i);
            box.tag(0);
            due("data(0) at " + i, box.data(0), stream[i] & 255);
        }
    }

    void bytesThatAreAddedDoNotMoveTheStream() {
        for (int added : new int[] {1, 15, 16, 17, 63, 64, 65, 200}) {
            AeadBox box = Boxes.begun(1, Boxes.TO_SEAL);
            Boxes.addAll(box, Boxes.row(added, 3));
            due("data(0) behind " + added, box.data(0), Boxes.crossed(new byte[1])[0] & 255);
        }
    }

    private static int[] wordsOf(int count, int word) {
        int[] words = new int[count];
        Arrays.fill(words, word);
        return words;
    }

    private void dueBlock(int block, int[] key, String hex) {
        byte[] due = HexFormat.of().parseHex(hex);
        AeadBox box = new AeadBox(block * BLOCK);
        Boxes.setWords(box, key, new int[3]);
        box.begin(Boxes.TO_SEAL);
        Boxes.giveAll(box, new byte[(block - 1) * BLOCK]);
        for (int i = 0; i < BLOCK; i++) {
            due("data(0) at " + i + " of block " + block, box.data(0), due[i] & 255);
        }
    }

    private void dueStream(int[] key, int[] nonce) {
        byte[] plain = new byte[2 * BLOCK + 1];
        AeadBox box = new AeadBox(plain.length);
        Boxes.setWords(box, key, nonce);
        box.begin(Boxes.TO_SEAL);
        Boxes.putIn(box, Boxes.NO_ROW, plain);
        dueOut(box, Oracle.xorStream(key, nonce, plain));
        dueTag(box, Oracle.tagOf(key, nonce, Boxes.NO_ROW, plain));
    }

    private void dueSealed(int length) {
        byte[] plain = Boxes.row(length, 20);
        AeadBox box = Boxes.done(Boxes.TO_SEAL, Boxes.NO_ROW, plain);
        dueLastBytes(box, Boxes.crossed(plain));
        dueTag(box, Boxes.tagOfPlain(Boxes.NO_ROW, plain));
    }

    private void dueOpened(int length) {
        byte[] sealed = Boxes.row(length, 21);
        AeadBox box = Boxes.done(Boxes.TO_OPEN, Boxes.NO_ROW, sealed);
        Boxes.expect(box, Boxes.tagOfSealed(Boxes.NO_ROW, sealed));
        due("verify() of " + length, box.verify(), true);
        dueLastBytes(box, Boxes.crossed(sealed));
    }

    /** Just the last 64 bytes: of the 512 calls, too few are left to look at all of a long row. */
    private void dueLastBytes(AeadBox box, byte[] row) {
        for (int i = row.length - Math.min(row.length, BLOCK); i <= row.length; i++) {
            due("out(" + i + ") of " + row.length, box.out(i), i < row.length ? row[i] & 255 : -1);
        }
    }
}
