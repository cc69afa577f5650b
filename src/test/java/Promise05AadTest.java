/** Promise 5: aad adds a byte when ADDING, up to 1000 times. */
public final class Promise05AadTest extends Tests {
    public static void main(String[] args) throws IllegalAccessException {
        new Promise05AadTest().runAll();
    }

    void eachByte() {
        AeadBox box = Boxes.begun(0, Boxes.TO_SEAL);
        byte[] added = new byte[256];
        for (int b = 0; b < 256; b++) {
            due("aad(" + b + ")", box.aad(b), true);
            added[b] = (byte) b;
        }
        dueStanding("after 256 bytes", box, Boxes.ADDING, 256, 0);
        box.finish();
        dueTag(box, Boxes.tagOfPlain(added, Boxes.NO_ROW));
    }

    void smallestByteAlone() {
        dueAlone(0);
    }

    void largestByteAlone() {
        dueAlone(255);
    }

    void whenOpening() {
        AeadBox box = Boxes.begun(0, Boxes.TO_OPEN);
        due("aad(8)", box.aad(8), true);
        dueStanding("after aad(8)", box, Boxes.ADDING, 1, 0);
        box.finish();
        Boxes.expect(box, Boxes.tagOfSealed(new byte[] {8}, Boxes.NO_ROW));
        due("verify()", box.verify(), true);
    }

    void noByteJustBelow() {
        dueFalse(State.all(), "aad(-1)", box -> box.aad(-1));
    }

    void noByteJustAbove() {
        dueFalse(State.all(), "aad(256)", box -> box.aad(256));
    }

    void noByteFarOut() {
        dueFalse(State.all(), "aad(MIN)", box -> box.aad(Integer.MIN_VALUE));
        dueFalse(State.all(), "aad(MAX)", box -> box.aad(Integer.MAX_VALUE));
        dueFalse(State.all(), "aad(-256)", box -> box.aad(-256));
    }

    void refusedWhenIdle() {
        dueFalse(State.in(Boxes.IDLE), "aad(1)", box -> box.aad(1));
    }

    void refusedWhenData() {
        dueFalse(State.in(Boxes.DATA), "aad(1)", box -> box.aad(1));
    }

    void refusedWhenDone() {
        dueFalse(State.in(Boxes.DONE), "aad(1)", box -> box.aad(1));
    }

    void refusedWhenOpened() {
        dueFalse(State.in(Boxes.OPENED), "aad(1)", box -> box.aad(1));
    }

    /** 510 bytes are as many as 512 calls leave room for beside begin() and the last look. */
    void asManyAs512CallsLeaveRoomFor() {
        AeadBox box = new AeadBox(0);
        box.begin(Boxes.TO_SEAL);
        for (int i = 0; i < 510; i++) {
            due("aad(" + i % 256 + ") at " + i, box.aad(i % 256), true);
        }
        due("added()", box.added(), 510);
    }

    /** Beyond 512 calls the answers are free; the limit that the document names is held all the same. */
    void thousandTimesAndOnceMore() {
        AeadBox box = Boxes.begun(1, Boxes.TO_SEAL);
        byte[] added = Boxes.row(1000, 3);
        for (int i = 0; i < 1000; i++) {
            due("aad() at " + i, box.aad(added[i] & 255), true);
        }
        due("aad(1) once more", box.aad(1), false);
        dueStanding("after it", box, Boxes.ADDING, 1000, 0);
        due("data(0)", box.data(0), Boxes.crossed(new byte[1])[0] & 255);
        box.finish();
        dueTag(box, Boxes.tagOfPlain(added, new byte[1]));
    }

    private void dueAlone(int b) {
        AeadBox box = Boxes.begun(0, Boxes.TO_SEAL);
        due("aad(" + b + ")", box.aad(b), true);
        box.finish();
        dueTag(box, Boxes.tagOfPlain(new byte[] {(byte) b}, Boxes.NO_ROW));
    }
}
