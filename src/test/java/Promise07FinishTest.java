import java.util.List;

/** Promise 7: finish makes ADDING or DATA to DONE. */
public final class Promise07FinishTest extends Tests {
    public static void main(String[] args) throws IllegalAccessException {
        new Promise07FinishTest().runAll();
    }

    void whenAdding() {
        dueTaken(State.in(Boxes.ADDING));
    }

    void whenData() {
        dueTaken(State.in(Boxes.DATA));
    }

    void noAadAndNoData() {
        dueBothWays(Boxes.NO_ROW, Boxes.NO_ROW);
    }

    void aadAndNoData() {
        dueBothWays(Boxes.row(3, 6), Boxes.NO_ROW);
    }

    void dataAndNoAad() {
        dueBothWays(Boxes.NO_ROW, Boxes.row(3, 6));
    }

    void refusedWhenIdle() {
        dueFalse(State.in(Boxes.IDLE), "finish()", AeadBox::finish);
    }

    void refusedWhenDone() {
        dueFalse(State.in(Boxes.DONE), "finish()", AeadBox::finish);
    }

    void refusedWhenOpened() {
        dueFalse(State.in(Boxes.OPENED), "finish()", AeadBox::finish);
    }

    private void dueTaken(List<State> states) {
        for (State state : states) {
            AeadBox box = state.makeBox();
            due("finish() in " + state, box.finish(), true);
            dueStanding("after finish() in " + state, box, Boxes.DONE, state.added, state.length);
        }
    }

    private void dueBothWays(byte[] added, byte[] sealed) {
        byte[] plain = Boxes.crossed(sealed);
        byte[] tag = Boxes.tagOfPlain(added, plain);
        AeadBox sealing = Boxes.done(Boxes.TO_SEAL, added, plain);
        dueOut(sealing, sealed);
        dueTag(sealing, tag);
        AeadBox opening = Boxes.done(Boxes.TO_OPEN, added, sealed);
        Boxes.expect(opening, tag);
        due("verify()", opening.verify(), true);
        dueOut(opening, plain);
    }
}
