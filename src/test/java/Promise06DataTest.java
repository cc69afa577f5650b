import java.util.List;

/** Promise 6: data takes a byte when ADDING or DATA; -1 where there is none to take, -2 when full. */
public final class Promise06DataTest extends Tests {
    public static void main(String[] args) throws IllegalAccessException {
        new Promise06DataTest().runAll();
    }

    void eachByteWhenSealing() {
        AeadBox box = Boxes.begun(256, Boxes.TO_SEAL);
        byte[] stream = Boxes.crossed(new byte[256]);
        for (int b = 0; b < 256; b++) {
            due("data(" + b + ")", box.data(b), (stream[b] & 255) ^ b);
        }
        dueStanding("after 256 bytes", box, Boxes.DATA, 0, 256);
    }

    void eachByteIsZeroWhenOpening() {
        AeadBox box = Boxes.begun(256, Boxes.TO_OPEN);
        for (int b = 0; b < 256; b++) {
            due("data(" + b + ")", box.data(b), 0);
        }
        dueStanding("after 256 bytes", box, Boxes.DATA, 0, 256);
    }

    void firstByteMakesAddingData() {
        for (State state : State.in(Boxes.ADDING)) {
            AeadBox box = state.makeBox();
            due("data(5) is taken in " + state, box.data(5) >= 0, true);
            dueStanding("after data(5) in " + state, box, Boxes.DATA, state.added, 1);
        }
    }

    void upToTheCapAndOneByteMoreWhenSealing() {
        AeadBox box = Boxes.begun(3, Boxes.TO_SEAL);
        byte[] plain = Boxes.row(3, 200);
        byte[] sealed = Boxes.crossed(plain);
        for (int i = 0; i < 3; i++) {
            due("data() at " + i, box.data(plain[i] & 255), sealed[i] & 255);
        }
        due("data(1) one more", box.data(1), -2);
        dueStanding("when full", box, Boxes.DATA, 0, 3);
        due("data(1) once again", box.data(1), -2);
        box.finish();
        dueOut(box, sealed);
        dueTag(box, Boxes.tagOfPlain(Boxes.NO_ROW, plain));
    }

    void upToTheCapAndOneByteMoreWhenOpening() {
        AeadBox box = Boxes.begun(3, Boxes.TO_OPEN);
        byte[] sealed = Boxes.row(3, 200);
        for (int i = 0; i < 3; i++) {
            due("data() at " + i, box.data(sealed[i] & 255), 0);
        }
        due("data(1) one more", box.data(1), -2);
        dueStanding("when full", box, Boxes.DATA, 0, 3);
        box.finish();
        Boxes.expect(box, Boxes.tagOfSealed(Boxes.NO_ROW, sealed));
        due("verify()", box.verify(), true);
        dueOut(box, Boxes.crossed(sealed));
    }

    void fourHundredBytesAndOneMore() {
        byte[] plain = Boxes.row(400, 11);
        byte[] sealed = Boxes.crossed(plain);
        AeadBox box = Boxes.begun(400, Boxes.TO_SEAL);
        for (int i = 0; i < 400; i++) {
            due("data() at " + i, box.data(plain[i] & 255), sealed[i] & 255);
        }
        due("data(1) one more", box.data(1), -2);
        box.finish();
        due("out(399)", box.out(399), sealed[399] & 255);
        due("out(400)", box.out(400), -1);
        dueTag(box, Boxes.tagOfPlain(Boxes.NO_ROW, plain));
    }

    void refusedWhenFull() {
        dueRefused(-2, State.going(Boxes.TO_SEAL, full()), "data(1)", box -> box.data(1));
        dueRefused(-2, State.going(Boxes.TO_OPEN, full()), "data(1)", box -> box.data(1));
    }

    /** Nothing has changed, so it is ADDING still and a byte may be added. */
    void refusedAtOnceWithCapZero() {
        AeadBox box = Boxes.begun(0, Boxes.TO_SEAL);
        due("data(0)", box.data(0), -2);
        dueStanding("after data(0)", box, Boxes.ADDING, 0, 0);
        due("aad(9)", box.aad(9), true);
        due("data(0) again", box.data(0), -2);
        dueStanding("after aad(9)", box, Boxes.ADDING, 1, 0);
        box.finish();
        due("data(0) when DONE", box.data(0), -1);
        dueOut(box, Boxes.NO_ROW);
        dueTag(box, Boxes.tagOfPlain(new byte[] {9}, Boxes.NO_ROW));
    }

    void noByteJustBelow() {
        dueRefused(-1, State.all(), "data(-1)", box -> box.data(-1));
    }

    void noByteJustAbove() {
        dueRefused(-1, State.all(), "data(256)", box -> box.data(256));
    }

    void noByteFarOut() {
        dueRefused(-1, State.all(), "data(MIN)", box -> box.data(Integer.MIN_VALUE));
        dueRefused(-1, State.all(), "data(MAX)", box -> box.data(Integer.MAX_VALUE));
        dueRefused(-1, State.all(), "data(-256)", box -> box.data(-256));
    }

    void noByteWhenFullIsNoByte() {
        dueRefused(-1, full(), "data(-1)", box -> box.data(-1));
        dueRefused(-1, full(), "data(256)", box -> box.data(256));
        due("data(256) with cap 0", Boxes.begun(0, Boxes.TO_SEAL).data(256), -1);
    }

    void refusedWhenIdle() {
        dueRefused(-1, State.in(Boxes.IDLE), "data(1)", box -> box.data(1));
    }

    /** Also when as many came as may be: the phase stands before the room. */
    void refusedWhenDone() {
        dueRefused(-1, State.in(Boxes.DONE), "data(1)", box -> box.data(1));
    }

    void refusedWhenOpened() {
        dueRefused(-1, State.in(Boxes.OPENED), "data(1)", box -> box.data(1));
    }

    private static List<State> full() {
        return List.of(State.FULL_TO_SEAL, State.FULL_TO_OPEN);
    }
}
