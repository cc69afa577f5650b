import java.util.Arrays;

/** The terms: THE TAG's row with its 0s up to a multiple of 16 and its counts; R's bits. */
public final class TermsTagTest extends Tests {
    private static final int[] NEAR_16 = {0, 1, 15, 16, 17, 31, 32, 33};

    public static void main(String[] args) throws IllegalAccessException {
        new TermsTagTest().runAll();
    }

    void noAadAndNoData() {
        dueTags(0, 0);
    }

    void aadNear16() {
        for (int added : NEAR_16) {
            dueTags(added, 0);
        }
    }

    void dataNear16() {
        for (int data : NEAR_16) {
            dueTags(0, data);
        }
    }

    void aadAndDataNear16() {
        for (int added : NEAR_16) {
            for (int data : NEAR_16) {
                dueTags(added, data);
            }
        }
    }

    void dataNear64WithAad() {
        for (int data = 63; data <= 65; data++) {
            dueTags(15, data);
            dueTags(16, data);
            dueTags(17, data);
        }
    }

    /** From 256 on, a count has a second byte. */
    void countsNear256() {
        for (int count = 255; count <= 257; count++) {
            dueTags(count, 1);
            dueTags(1, count);
        }
    }

    void mostData() {
        dueTags(3, 399);
        dueTags(3, 400);
    }

    /** A 0 at the end and a 0 of the filling are told apart by the counts alone. */
    void zerosThatCameAndZerosThatFill() {
        byte[] short15 = new byte[15];
        byte[] whole16 = new byte[16];
        due("AAD of 15 and of 16 zeros have one tag", sameTag(short15, Boxes.NO_ROW, whole16, Boxes.NO_ROW), false);
        due("data of 15 and of 16 zeros have one tag", sameTag(Boxes.NO_ROW, short15, Boxes.NO_ROW, whole16), false);
        dueTagOf(short15, Boxes.NO_ROW);
        dueTagOf(whole16, Boxes.NO_ROW);
        dueTagOf(Boxes.NO_ROW, short15);
        dueTagOf(Boxes.NO_ROW, whole16);
    }

    void theSameBytesAddedOrSealed() {
        byte[] row = Boxes.row(16, 7);
        byte[] plain = Boxes.crossed(row);
        due("one tag for both", sameTag(row, Boxes.NO_ROW, Boxes.NO_ROW, plain), false);
        dueTagOf(row, Boxes.NO_ROW);
        dueTagOf(Boxes.NO_ROW, plain);
    }

    void largestBytes() {
        for (int length : NEAR_16) {
            byte[] ones = new byte[length];
            Arrays.fill(ones, (byte) 255);
            dueTagOf(ones, Boxes.NO_ROW);
            dueTagOf(Boxes.NO_ROW, Boxes.crossed(ones));
            dueTagOf(ones, ones);
        }
    }

    /** Block 0s are looked for in which the bits that R loses are 1, each of them once at least. */
    void bitsThatDoNotStayInR() {
        for (int at : new int[] {3, 7, 11, 15}) {
            for (int bit = 4; bit < 8; bit++) {
                dueTagWithBit(at, bit);
            }
        }
        for (int at : new int[] {4, 8, 12}) {
            dueTagWithBit(at, 0);
            dueTagWithBit(at, 1);
        }
    }

    void bitsThatStayInR() {
        for (int at : new int[] {3, 7, 11, 15}) {
            dueTagWithBit(at, 0);
            dueTagWithBit(at, 3);
        }
        for (int at : new int[] {4, 8, 12}) {
            dueTagWithBit(at, 2);
            dueTagWithBit(at, 7);
        }
        for (int bit = 0; bit < 8; bit++) {
            dueTagWithBit(0, bit);
        }
    }

    private void dueTagWithBit(int at, int bit) {
        int[] nonce = new int[3];
        while (((Oracle.blockZero(Boxes.KEY, nonce)[at] >> bit) & 1) == 0) {
            nonce[0]++;
        }
        dueTagByNonce(nonce, Boxes.row(32, 5));
    }

    private void dueTagByNonce(int[] nonce, byte[] added) {
        AeadBox box = new AeadBox(0);
        Boxes.setWords(box, Boxes.KEY, nonce);
        box.begin(Boxes.TO_SEAL);
        Boxes.putIn(box, added, Boxes.NO_ROW);
        dueTag(box, Oracle.tagOf(Boxes.KEY, nonce, added, Boxes.NO_ROW));
    }

    private static boolean sameTag(byte[] added, byte[] plain, byte[] otherAdded, byte[] otherPlain) {
        AeadBox box = Boxes.done(Boxes.TO_SEAL, added, plain);
        AeadBox other = Boxes.done(Boxes.TO_SEAL, otherAdded, otherPlain);
        boolean same = true;
        for (int i = 0; i < Oracle.TAG_BYTES; i++) {
            same &= box.tag(i) == other.tag(i);
        }
        return same;
    }

    private void dueTags(int added, int data) {
        dueTagOf(Boxes.row(added, 100), Boxes.row(data, 200));
    }

    /** The tag when the row is sealed, and when it is opened. */
    private void dueTagOf(byte[] added, byte[] plain) {
        byte[] tag = Boxes.tagOfPlain(added, plain);
        dueTag(Boxes.done(Boxes.TO_SEAL, added, plain), tag);
        AeadBox opening = Boxes.done(Boxes.TO_OPEN, added, Boxes.crossed(plain));
        Boxes.expect(opening, tag);
        due("verify() of " + added.length + " and " + plain.length, opening.verify(), true);
    }
}
