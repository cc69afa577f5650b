import java.util.List;

/** Promise 10: tag tells byte i (0 .. 15) of the tag when DONE and sealing, and -1 elsewhere. */
public final class Promise10TagTest extends Tests {
    private static final byte[] ADDED = Boxes.row(18, 40);
    private static final byte[] PLAIN = Boxes.row(35, 50);

    public static void main(String[] args) throws IllegalAccessException {
        new Promise10TagTest().runAll();
    }

    void eachByte() {
        dueTag(Boxes.done(Boxes.TO_SEAL, ADDED, PLAIN), Boxes.tagOfPlain(ADDED, PLAIN));
    }

    void toldAgainAlike() {
        AeadBox box = Boxes.done(Boxes.TO_SEAL, ADDED, PLAIN);
        dueTag(box, Boxes.tagOfPlain(ADDED, PLAIN));
        dueTag(box, Boxes.tagOfPlain(ADDED, PLAIN));
        dueStanding("after it", box, Boxes.DONE, 18, 35);
    }

    void bytesOfZeroAreTold() {
        AeadBox box = TagRow.ofTagZero().begun(Boxes.TO_SEAL);
        box.finish();
        dueTag(box, new byte[16]);
    }

    void indexJustBelowRange() {
        dueRefused(-1, State.all(), "tag(-1)", box -> box.tag(-1));
    }

    void indexJustAboveRange() {
        dueRefused(-1, State.all(), "tag(16)", box -> box.tag(16));
    }

    void indexFarOutOfRange() {
        dueRefused(-1, State.all(), "tag(MIN)", box -> box.tag(Integer.MIN_VALUE));
        dueRefused(-1, State.all(), "tag(MAX)", box -> box.tag(Integer.MAX_VALUE));
    }

    void untoldWhenIdle() {
        dueUntold(State.in(Boxes.IDLE));
    }

    void untoldWhenAdding() {
        dueUntold(State.in(Boxes.ADDING));
    }

    void untoldWhenData() {
        dueUntold(State.in(Boxes.DATA));
    }

    void untoldWhenDoneAndOpening() {
        dueUntold(State.going(Boxes.TO_OPEN, State.in(Boxes.DONE)));
    }

    void untoldWhenOpened() {
        dueUntold(State.in(Boxes.OPENED));
    }

    private void dueUntold(List<State> states) {
        dueRefused(-1, states, "tag(0)", box -> box.tag(0));
        dueRefused(-1, states, "tag(15)", box -> box.tag(15));
    }
}
