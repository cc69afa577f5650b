/** Promise 4: begin(0 or 1) when IDLE makes ADDING, with nothing added, no data and 0 expected. */
public final class Promise04BeginTest extends Tests {
    public static void main(String[] args) throws IllegalAccessException {
        new Promise04BeginTest().runAll();
    }

    void toSeal() {
        AeadBox box = Boxes.keyed(1);
        due("begin(0)", box.begin(0), true);
        dueStanding("after begin(0)", box, Boxes.ADDING, 0, 0);
        due("data(0)", box.data(0), Boxes.crossed(new byte[1])[0] & 255);
    }

    void toOpen() {
        AeadBox box = Boxes.keyed(1);
        due("begin(1)", box.begin(1), true);
        dueStanding("after begin(1)", box, Boxes.ADDING, 0, 0);
        due("data(0)", box.data(0), 0);
    }

    void directionJustBelowRange() {
        dueFalse(State.all(), "begin(-1)", box -> box.begin(-1));
    }

    void directionJustAboveRange() {
        dueFalse(State.all(), "begin(2)", box -> box.begin(2));
    }

    void directionFarOutOfRange() {
        dueFalse(State.all(), "begin(MIN)", box -> box.begin(Integer.MIN_VALUE));
        dueFalse(State.all(), "begin(MAX)", box -> box.begin(Integer.MAX_VALUE));
    }

    void refusedWhenNotIdle() {
        dueFalse(State.notIn(Boxes.IDLE), "begin(0)", box -> box.begin(0));
        dueFalse(State.notIn(Boxes.IDLE), "begin(1)", box -> box.begin(1));
    }

    void refusedTwiceInARow() {
        dueFalse(State.in(Boxes.ADDING), "begin(1) twice", box -> box.begin(1) | box.begin(1));
    }

    void nothingWasAddedAndThereAreNoDataWhenBegunAgain() {
        for (State state : State.all()) {
            for (int dir = Boxes.TO_SEAL; dir <= Boxes.TO_OPEN; dir++) {
                AeadBox box = state.makeBox();
                box.reset();
                due("begin(" + dir + ") after " + state, box.begin(dir), true);
                dueStanding("begun again after " + state, box, Boxes.ADDING, 0, 0);
                dueNothingTold("begun again after " + state, box);
            }
        }
    }

    void aRowOfBeforeLeavesNoTraceInTheTag() {
        byte[] added = Boxes.row(5, 70);
        byte[] plain = Boxes.row(3, 80);
        for (State state : State.all()) {
            AeadBox box = state.makeBox();
            box.reset();
            dueSeals(box, added, plain);
        }
    }

    void theRoomIsWholeAgain() {
        AeadBox box = State.FULL_TO_SEAL.makeBox();
        box.reset();
        box.begin(Boxes.TO_OPEN);
        for (int i = 0; i < State.CAP; i++) {
            due("data(1) at " + i, box.data(1), 0);
        }
        due("data(1) when full again", box.data(1), -2);
    }

    void againWithAnotherKeyNonceAndDirection() {
        AeadBox box = Boxes.done(Boxes.TO_SEAL, Boxes.row(17, 1), Boxes.row(70, 2));
        int[] key = {1, 2, 3, 4, 5, 6, 7, -8};
        int[] nonce = {-9, 10, 11};
        byte[] added = Boxes.row(3, 4);
        byte[] sealed = Boxes.row(66, 5);
        byte[] plain = Oracle.xorStream(key, nonce, sealed);
        box.reset();
        Boxes.setWords(box, key, nonce);
        due("begin(1)", box.begin(Boxes.TO_OPEN), true);
        Boxes.putIn(box, added, sealed);
        Boxes.expect(box, Oracle.tagOf(key, nonce, added, plain));
        due("verify()", box.verify(), true);
        dueOut(box, plain);
        box.reset();
        Boxes.setWords(box, Boxes.KEY, Boxes.NONCE);
        dueSeals(box, added, sealed);
    }

    void theTagExpectedBeforeCountsNoMore() {
        AeadBox box = State.DONE_EXPECTING.makeBox();
        box.reset();
        box.begin(Boxes.TO_OPEN);
        Boxes.putIn(box, new byte[] {1, 2}, new byte[] {101, 102, 103});
        due("verify() by the tag of before", box.verify(), false);
        dueStanding("after verify()", box, Boxes.DONE, 2, 3);
    }

    /** Where the tag is 0, nothing need be expected for it. */
    void theTagExpectedIsZeroAtFirst() {
        AeadBox box = TagRow.ofTagZero().begun(Boxes.TO_OPEN);
        box.finish();
        due("verify()", box.verify(), true);
        dueStanding("after verify()", box, Boxes.OPENED, 16, 0);
    }

    void theTagExpectedIsZeroAgainInEachByte() {
        TagRow row = TagRow.ofTagZero();
        for (int i = 0; i < Oracle.TAG_BYTES; i++) {
            AeadBox box = Boxes.begun(0, Boxes.TO_OPEN);
            box.finish();
            due("expectTag(" + i + ", 255)", box.expectTag(i, 255), true);
            box.reset();
            row.beginAgain(box, Boxes.TO_OPEN);
            box.finish();
            due("verify() with byte " + i + " expected before", box.verify(), true);
        }
    }
}
