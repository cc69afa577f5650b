import java.util.List;

/** Promise 9: verify makes DONE to OPENED when opening and the tag expected is the tag. */
public final class Promise09VerifyTest extends Tests {
    private static final byte[] ADDED = Boxes.row(20, 9);
    private static final byte[] SEALED = Boxes.row(33, 90);
    private static final byte[] PLAIN = Boxes.crossed(SEALED);
    private static final byte[] TAG = Boxes.tagOfPlain(ADDED, PLAIN);

    public static void main(String[] args) throws IllegalAccessException {
        new Promise09VerifyTest().runAll();
    }

    void theRightTag() {
        AeadBox box = expecting(TAG);
        due("verify()", box.verify(), true);
        dueStanding("after verify()", box, Boxes.OPENED, 20, 33);
        dueOut(box, PLAIN);
    }

    void theRightTagOfNothing() {
        AeadBox box = Boxes.done(Boxes.TO_OPEN, Boxes.NO_ROW, Boxes.NO_ROW);
        Boxes.expect(box, Boxes.tagOfPlain(Boxes.NO_ROW, Boxes.NO_ROW));
        due("verify()", box.verify(), true);
        dueStanding("after verify()", box, Boxes.OPENED, 0, 0);
        dueOut(box, Boxes.NO_ROW);
    }

    void aWrongTagThenTheRightOne() {
        AeadBox box = expecting(Boxes.row(16, 1));
        due("verify() by a wrong tag", box.verify(), false);
        dueStanding("after a wrong tag", box, Boxes.DONE, 20, 33);
        dueNothingTold("after a wrong tag", box);
        Boxes.expect(box, TAG);
        due("verify() by the right one", box.verify(), true);
        dueStanding("after the right tag", box, Boxes.OPENED, 20, 33);
        dueOut(box, PLAIN);
    }

    void eachBitWrongAloneThenMended() {
        for (int bit = 0; bit < 128; bit++) {
            int right = TAG[bit / 8] & 255;
            AeadBox box = expecting(TAG);
            box.expectTag(bit / 8, right ^ (1 << (bit % 8)));
            due("verify() with bit " + bit + " wrong", box.verify(), false);
            dueStanding("with bit " + bit + " wrong", box, Boxes.DONE, 20, 33);
            box.expectTag(bit / 8, right);
            due("verify() with bit " + bit + " mended", box.verify(), true);
        }
    }

    void eachByteMissing() {
        for (int missing = 0; missing < 16; missing++) {
            AeadBox box = Boxes.done(Boxes.TO_OPEN, ADDED, SEALED);
            for (int i = 0; i < 16; i++) {
                if (i != missing) {
                    box.expectTag(i, TAG[i] & 255);
                }
            }
            due("verify() without byte " + missing, box.verify(), TAG[missing] == 0);
        }
    }

    /** Two bytes changed by the same bits: a sum of differences that go out would not see them. */
    void twoBytesWrongAlike() {
        for (int i = 1; i < 16; i++) {
            byte[] tag = TAG.clone();
            tag[0] ^= 64;
            tag[i] ^= 64;
            due("verify() with bytes 0 and " + i + " wrong", expecting(tag).verify(), false);
        }
    }

    void bytesInAnotherOrder() {
        byte[] tag = new byte[16];
        for (int i = 0; i < 16; i++) {
            tag[i] = TAG[15 - i];
        }
        due("verify() with the bytes turned round", expecting(tag).verify(), false);
    }

    void theTagOfOtherAad() {
        byte[] added = ADDED.clone();
        added[19] ^= 1;
        due("verify()", expecting(Boxes.tagOfPlain(added, PLAIN)).verify(), false);
    }

    void theTagOfOtherData() {
        byte[] plain = PLAIN.clone();
        plain[32] ^= 1;
        due("verify()", expecting(Boxes.tagOfPlain(ADDED, plain)).verify(), false);
    }

    void nothingExpectedIsZero() {
        AeadBox box = Boxes.done(Boxes.TO_OPEN, ADDED, SEALED);
        due("verify()", box.verify(), false);
        dueStanding("after verify()", box, Boxes.DONE, 20, 33);
    }

    void refusedByAWrongTag() {
        dueFalse(List.of(State.DONE_OPENING, State.DONE_OPENING_NOTHING), "verify()", AeadBox::verify);
    }

    void refusedWhenIdle() {
        dueFalse(State.in(Boxes.IDLE), "verify()", AeadBox::verify);
    }

    void refusedWhenAdding() {
        dueFalse(State.in(Boxes.ADDING), "verify()", AeadBox::verify);
    }

    void refusedWhenData() {
        dueFalse(State.in(Boxes.DATA), "verify()", AeadBox::verify);
    }

    void refusedWhenDoneAndSealing() {
        dueFalse(State.going(Boxes.TO_SEAL, State.in(Boxes.DONE)), "verify()", AeadBox::verify);
    }

    /** Where the tag is 0, the tag expected is the tag, but there is nothing to open. */
    void refusedWhenSealingATagOfZeros() {
        AeadBox box = TagRow.ofTagZero().begun(Boxes.TO_SEAL);
        box.finish();
        due("verify()", box.verify(), false);
        dueStanding("after verify()", box, Boxes.DONE, 16, 0);
    }

    void refusedBeforeATagOfZerosIsFinished() {
        AeadBox box = TagRow.ofTagZero().begun(Boxes.TO_OPEN);
        due("verify()", box.verify(), false);
        dueStanding("after verify()", box, Boxes.ADDING, 16, 0);
        box.finish();
        due("verify() when DONE", box.verify(), true);
        due("verify() when OPENED", box.verify(), false);
    }

    void refusedWhenOpened() {
        dueFalse(State.in(Boxes.OPENED), "verify()", AeadBox::verify);
    }

    private static AeadBox expecting(byte[] tag) {
        AeadBox box = Boxes.done(Boxes.TO_OPEN, ADDED, SEALED);
        Boxes.expect(box, tag);
        return box;
    }
}
