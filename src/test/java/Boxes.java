/** Boxes with a key and a nonce that the tests share, and rows of bytes to put into them. */
final class Boxes {
    static final int TO_SEAL = 0;
    static final int TO_OPEN = 1;

    static final int IDLE = 0;
    static final int ADDING = 1;
    static final int DATA = 2;
    static final int DONE = 3;
    static final int OPENED = 4;

    static final int[] KEY = {0x80000001, -1, 0x7FFFFFFF, 0, 5, 0x01020304, 0xFFFE0000, 0x00FF00FF};
    static final int[] NONCE = {0xA0B0C0D0, -2, 9};

    static final byte[] NO_ROW = {};

    private Boxes() {
    }

    static AeadBox keyed(int cap) {
        AeadBox box = new AeadBox(cap);
        setWords(box, KEY, NONCE);
        return box;
    }

    static void setWords(AeadBox box, int[] key, int[] nonce) {
        for (int i = 0; i < key.length; i++) {
            box.setKeyWord(i, key[i]);
        }
        for (int i = 0; i < nonce.length; i++) {
            box.setNonceWord(i, nonce[i]);
        }
    }

    static AeadBox begun(int cap, int dir) {
        AeadBox box = keyed(cap);
        box.begin(dir);
        return box;
    }

    static AeadBox done(int dir, byte[] added, byte[] data) {
        AeadBox box = begun(data.length, dir);
        putIn(box, added, data);
        return box;
    }

    /** From begin() to finish(). */
    static void putIn(AeadBox box, byte[] added, byte[] data) {
        addAll(box, added);
        giveAll(box, data);
        box.finish();
    }

    static void addAll(AeadBox box, byte[] added) {
        for (byte b : added) {
            box.aad(b & 255);
        }
    }

    static void giveAll(AeadBox box, byte[] data) {
        for (byte b : data) {
            box.data(b & 255);
        }
    }

    static void expect(AeadBox box, byte[] tag) {
        for (int i = 0; i < tag.length; i++) {
            box.expectTag(i, tag[i] & 255);
        }
    }

    static byte[] row(int length, int first) {
        byte[] row = new byte[length];
        for (int i = 0; i < length; i++) {
            row[i] = (byte) (first + 37 * i);
        }
        return row;
    }

    /** What comes of a row by the shared key and nonce, to seal as to open. */
    static byte[] crossed(byte[] row) {
        return Oracle.xorStream(KEY, NONCE, row);
    }

    static byte[] tagOfPlain(byte[] added, byte[] plain) {
        return Oracle.tagOf(KEY, NONCE, added, plain);
    }

    static byte[] tagOfSealed(byte[] added, byte[] sealed) {
        return tagOfPlain(added, crossed(sealed));
    }
}
