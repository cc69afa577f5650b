/** Promise 15: reset makes IDLE of every phase; key and nonce stay, lengths too. */
public final class Promise15ResetTest extends Tests {
    public static void main(String[] args) throws IllegalAccessException {
        new Promise15ResetTest().runAll();
    }

    void idleFromEachStateAndLengthsStay() {
        for (State state : State.all()) {
            AeadBox box = state.makeBox();
            box.reset();
            dueStanding("after reset() in " + state, box, Boxes.IDLE, state.added, state.length);
        }
    }

    void aNewObjectStaysAsItIs() {
        AeadBox box = new AeadBox(3);
        box.reset();
        dueStanding("after reset()", box, Boxes.IDLE, 0, 0);
        dueNothingTold("after reset()", box);
    }

    void twiceIsLikeOnce() {
        AeadBox box = State.OPENED.makeBox();
        box.reset();
        box.reset();
        dueStanding("after reset() twice", box, Boxes.IDLE, 2, 3);
        due("begin(0)", box.begin(Boxes.TO_SEAL), true);
    }

    void keyAndNonceStayFromEachState() {
        byte[] added = Boxes.row(2, 31);
        byte[] plain = Boxes.row(State.CAP, 32);
        for (State state : State.all()) {
            AeadBox box = state.makeBox();
            box.reset();
            dueSeals(box, added, plain);
        }
    }

    /** The blocks begin with 1 again, wherever in them the row before ended. */
    void theStreamBeginsAnewAfterEachLength() {
        for (int length : new int[] {0, 1, 63, 64, 65, 127, 128, 129, 200}) {
            AeadBox box = Boxes.begun(200, Boxes.TO_SEAL);
            Boxes.giveAll(box, Boxes.row(length, 6));
            box.reset();
            dueSeals(box, Boxes.NO_ROW, Boxes.row(130, 7));
        }
    }

    void allButSettingAndBeginIsRefusedAfterIt() {
        for (State state : State.all()) {
            AeadBox box = state.makeBox();
            box.reset();
            due("aad(1) after " + state, box.aad(1), false);
            due("data(1) after " + state, box.data(1), -1);
            due("finish() after " + state, box.finish(), false);
            due("expectTag(0, 1) after " + state, box.expectTag(0, 1), false);
            due("verify() after " + state, box.verify(), false);
            dueNothingTold("after reset() in " + state, box);
            dueStanding("after it all in " + state, box, Boxes.IDLE, state.added, state.length);
        }
    }
}
