/** Promise 8: expectTag sets byte i (0 .. 15) of the tag expected when DONE and opening. */
public final class Promise08ExpectTagTest extends Tests {
    private static final byte[] ADDED = {1, 2};
    private static final byte[] SEALED = {101, 102, 103};
    private static final byte[] TAG = Boxes.tagOfSealed(ADDED, SEALED);

    public static void main(String[] args) throws IllegalAccessException {
        new Promise08ExpectTagTest().runAll();
    }

    void eachByteOfTheTag() {
        AeadBox box = Boxes.done(Boxes.TO_OPEN, ADDED, SEALED);
        for (int i = 0; i < 16; i++) {
            due("expectTag(" + i + ")", box.expectTag(i, TAG[i] & 255), true);
            dueStanding("after expectTag(" + i + ")", box, Boxes.DONE, 2, 3);
        }
        due("verify()", box.verify(), true);
    }

    void fromTheLastByteToTheFirst() {
        AeadBox box = Boxes.done(Boxes.TO_OPEN, ADDED, SEALED);
        for (int i = 15; i >= 0; i--) {
            due("expectTag(" + i + ")", box.expectTag(i, TAG[i] & 255), true);
        }
        due("verify()", box.verify(), true);
    }

    void smallestAndLargestByteAreTaken() {
        for (int i = 0; i < 16; i++) {
            AeadBox box = expectingAllRight();
            due("expectTag(" + i + ", 0)", box.expectTag(i, 0), true);
            due("verify() with 0", box.verify(), TAG[i] == 0);
            AeadBox other = expectingAllRight();
            due("expectTag(" + i + ", 255)", other.expectTag(i, 255), true);
            due("verify() with 255", other.verify(), TAG[i] == -1);
        }
    }

    void theLaterByteCounts() {
        for (int i = 0; i < 16; i++) {
            AeadBox box = expectingAllRight();
            box.expectTag(i, TAG[i] + 1 & 255);
            box.expectTag(i, TAG[i] & 255);
            due("verify() with byte " + i + " set twice", box.verify(), true);
        }
    }

    void indexJustBelowRange() {
        dueFalse(State.all(), "expectTag(-1, 5)", box -> box.expectTag(-1, 5));
    }

    void indexJustAboveRange() {
        dueFalse(State.all(), "expectTag(16, 5)", box -> box.expectTag(16, 5));
    }

    void indexFarOutOfRange() {
        dueFalse(State.all(), "expectTag(MIN, 5)", box -> box.expectTag(Integer.MIN_VALUE, 5));
        dueFalse(State.all(), "expectTag(MAX, 5)", box -> box.expectTag(Integer.MAX_VALUE, 5));
    }

    void noByteJustBelow() {
        dueFalse(State.all(), "expectTag(0, -1)", box -> box.expectTag(0, -1));
        dueFalse(State.all(), "expectTag(15, -1)", box -> box.expectTag(15, -1));
    }

    void noByteJustAbove() {
        dueFalse(State.all(), "expectTag(0, 256)", box -> box.expectTag(0, 256));
        dueFalse(State.all(), "expectTag(15, 256)", box -> box.expectTag(15, 256));
    }

    void noByteFarOut() {
        dueFalse(State.all(), "expectTag(0, MIN)", box -> box.expectTag(0, Integer.MIN_VALUE));
        dueFalse(State.all(), "expectTag(0, MAX)", box -> box.expectTag(0, Integer.MAX_VALUE));
    }

    /** A byte 256 too large has the right lowest byte, and is no byte all the same. */
    void noByteThatEndsLikeTheRightOne() {
        AeadBox box = Boxes.done(Boxes.TO_OPEN, ADDED, SEALED);
        for (int i = 0; i < 16; i++) {
            due("expectTag() 256 more at " + i, box.expectTag(i, (TAG[i] & 255) + 256), false);
            due("expectTag() 256 less at " + i, box.expectTag(i, (TAG[i] & 255) - 256), false);
        }
        due("verify()", box.verify(), false);
    }

    void refusedWhenIdle() {
        dueFalse(State.in(Boxes.IDLE), "expectTag(0, 5)", box -> box.expectTag(0, 5));
    }

    void refusedWhenAdding() {
        dueFalse(State.in(Boxes.ADDING), "expectTag(0, 5)", box -> box.expectTag(0, 5));
    }

    void refusedWhenData() {
        dueFalse(State.in(Boxes.DATA), "expectTag(0, 5)", box -> box.expectTag(0, 5));
    }

    void refusedWhenDoneAndSealing() {
        dueFalse(State.going(Boxes.TO_SEAL, State.in(Boxes.DONE)), "expectTag(0, 5)", box -> box.expectTag(0, 5));
    }

    void refusedWhenOpened() {
        dueFalse(State.in(Boxes.OPENED), "expectTag(0, 5)", box -> box.expectTag(0, 5));
    }

    void theRightTagGivenTooEarlyIsNotKept() {
        AeadBox box = Boxes.keyed(3);
        Boxes.expect(box, TAG);
        box.begin(Boxes.TO_OPEN);
        Boxes.expect(box, TAG);
        Boxes.addAll(box, ADDED);
        Boxes.expect(box, TAG);
        Boxes.giveAll(box, SEALED);
        Boxes.expect(box, TAG);
        box.finish();
        due("verify()", box.verify(), false);
        Boxes.expect(box, TAG);
        due("verify() with the tag given in time", box.verify(), true);
    }

    private static AeadBox expectingAllRight() {
        AeadBox box = Boxes.done(Boxes.TO_OPEN, ADDED, SEALED);
        Boxes.expect(box, TAG);
        return box;
    }
}
