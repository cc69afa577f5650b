/** Boxes brought into the states that the tests begin from. */
final class Boxes {
    static final int TO_SEAL = 0;
    static final int TO_OPEN = 1;

    static final int IDLE = 0;
    static final int ADDING = 1;
    static final int DATA = 2;
    static final int DONE = 3;
    static final int OPENED = 4;

    private Boxes() {
    }

    static AeadBox begun(int cap, int dir) {
        AeadBox box = new AeadBox(cap);
        box.begin(dir);
        return box;
    }

    /** With two bytes added, two of data, and the key and nonce of a new object. */
    static AeadBox withData(int dir) {
        AeadBox box = begun(4, dir);
        box.aad(1);
        box.aad(2);
        box.data(3);
        box.data(4);
        return box;
    }

    static AeadBox done(int dir) {
        AeadBox box = withData(dir);
        box.finish();
        return box;
    }

    static AeadBox opened() {
        AeadBox box = done(TO_OPEN);
        expectTagOf(box, tagWhenOpening());
        box.verify();
        return box;
    }

    /** A box in each phase, DONE twice: sealing at that number, opening at the one behind the last. */
    static AeadBox[] inEachPhase() {
        return new AeadBox[] {
            new AeadBox(4), begun(4, TO_SEAL), withData(TO_SEAL), done(TO_SEAL), opened(), done(TO_OPEN)
        };
    }

    /** The tag of withData(TO_OPEN): its data are the sealed ones. */
    static byte[] tagWhenOpening() {
        byte[] plain = Oracle.xorStream(new int[8], new int[3], new byte[] {3, 4});
        return Oracle.tagOf(new int[8], new int[3], new byte[] {1, 2}, plain);
    }

    static void expectTagOf(AeadBox box, byte[] tag) {
        for (int i = 0; i < tag.length; i++) {
            box.expectTag(i, tag[i] & 255);
        }
    }
}
