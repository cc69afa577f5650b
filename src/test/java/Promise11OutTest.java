import java.util.List;

/** Promise 11: out tells byte i of what came of the data when DONE and sealing, or OPENED. */
public final class Promise11OutTest extends Tests {
    private static final byte[] ROW = Boxes.row(150, 60);

    public static void main(String[] args) throws IllegalAccessException {
        new Promise11OutTest().runAll();
    }

    void eachByteWhenDoneAndSealing() {
        dueOut(Boxes.done(Boxes.TO_SEAL, Boxes.NO_ROW, ROW), Boxes.crossed(ROW));
    }

    void eachByteWhenOpened() {
        AeadBox box = opened(ROW);
        dueOut(box, Boxes.crossed(ROW));
        dueStanding("after it", box, Boxes.OPENED, 0, 150);
    }

    void theBytesThatDataTold() {
        AeadBox box = Boxes.begun(240, Boxes.TO_SEAL);
        int[] told = new int[240];
        for (int i = 0; i < 240; i++) {
            told[i] = box.data(255 - i);
        }
        box.finish();
        for (int i = 0; i < 240; i++) {
            due("out(" + i + ")", box.out(i), told[i]);
        }
    }

    void indexJustBelowRange() {
        dueRefused(-1, State.all(), "out(-1)", box -> box.out(-1));
    }

    void indexJustAboveTheData() {
        dueRefused(-1, List.of(State.DONE_SEALING, State.OPENED), "out(3)", box -> box.out(3));
        dueRefused(-1, List.of(State.DONE_SEALING_FULL), "out(4)", box -> box.out(4));
    }

    /** There is room for these bytes, but there are none. */
    void indexWithinTheCapBehindTheData() {
        AeadBox box = Boxes.begun(400, Boxes.TO_SEAL);
        box.data(1);
        box.finish();
        due("out(0)", box.out(0) >= 0, true);
        for (int i = 1; i <= 400; i++) {
            due("out(" + i + ")", box.out(i), -1);
        }
    }

    void indexFarOutOfRange() {
        dueRefused(-1, State.all(), "out(MIN)", box -> box.out(Integer.MIN_VALUE));
        dueRefused(-1, State.all(), "out(MAX)", box -> box.out(Integer.MAX_VALUE));
        dueRefused(-1, State.all(), "out(400)", box -> box.out(400));
    }

    void noneOfNoData() {
        dueRefused(-1, List.of(State.DONE_SEALING_NOTHING, State.OPENED_NOTHING), "out(0)",
            box -> box.out(0));
    }

    void noneOfTheRowBefore() {
        AeadBox box = opened(ROW);
        box.reset();
        dueSeals(box, Boxes.NO_ROW, new byte[] {77});
    }

    void untoldWhenIdle() {
        dueRefused(-1, State.in(Boxes.IDLE), "out(0)", box -> box.out(0));
    }

    void untoldWhenAdding() {
        dueRefused(-1, State.in(Boxes.ADDING), "out(0)", box -> box.out(0));
    }

    void untoldWhenData() {
        dueRefused(-1, State.in(Boxes.DATA), "out(0)", box -> box.out(0));
    }

    void untoldWhenDoneAndOpening() {
        dueRefused(-1, State.going(Boxes.TO_OPEN, State.in(Boxes.DONE)), "out(0)", box -> box.out(0));
    }

    void whatIsOpenedIsToldOnlyWhenTheTagWasRight() {
        byte[] sealed = Boxes.row(20, 61);
        AeadBox box = Boxes.begun(20, Boxes.TO_OPEN);
        dueNothingTold("when ADDING", box);
        Boxes.giveAll(box, sealed);
        dueNothingTold("when DATA", box);
        box.finish();
        dueNothingTold("before verify()", box);
        box.verify();
        dueNothingTold("after a wrong verify()", box);
        Boxes.expect(box, Boxes.tagOfSealed(Boxes.NO_ROW, sealed));
        dueNothingTold("with the right tag, before verify()", box);
        box.verify();
        dueOut(box, Boxes.crossed(sealed));
        box.reset();
        dueNothingTold("after reset()", box);
        box.begin(Boxes.TO_OPEN);
        dueNothingTold("begun again", box);
    }

    private static AeadBox opened(byte[] sealed) {
        AeadBox box = Boxes.done(Boxes.TO_OPEN, Boxes.NO_ROW, sealed);
        Boxes.expect(box, Boxes.tagOfSealed(Boxes.NO_ROW, sealed));
        box.verify();
        return box;
    }
}
