/** Promise 14: phase tells the phase, by its number in the document's terms. */
public final class Promise14PhaseTest extends Tests {
    public static void main(String[] args) throws IllegalAccessException {
        new Promise14PhaseTest().runAll();
    }

    void sealingStepByStep() {
        AeadBox box = Boxes.keyed(2);
        due("phase() IDLE", box.phase(), 0);
        box.begin(Boxes.TO_SEAL);
        due("phase() ADDING", box.phase(), 1);
        box.aad(1);
        due("phase() ADDING still", box.phase(), 1);
        box.data(1);
        due("phase() DATA", box.phase(), 2);
        box.data(1);
        due("phase() DATA still", box.phase(), 2);
        box.finish();
        due("phase() DONE", box.phase(), 3);
        box.reset();
        due("phase() IDLE again", box.phase(), 0);
    }

    void openingStepByStep() {
        AeadBox box = Boxes.begun(2, Boxes.TO_OPEN);
        due("phase() ADDING", box.phase(), 1);
        box.data(1);
        due("phase() DATA", box.phase(), 2);
        box.finish();
        due("phase() DONE", box.phase(), 3);
        Boxes.expect(box, Boxes.tagOfSealed(Boxes.NO_ROW, new byte[] {1}));
        due("phase() DONE still", box.phase(), 3);
        box.verify();
        due("phase() OPENED", box.phase(), 4);
        box.reset();
        due("phase() IDLE again", box.phase(), 0);
    }

    void fromAddingToDoneWithoutData() {
        AeadBox box = Boxes.begun(0, Boxes.TO_SEAL);
        box.finish();
        due("phase()", box.phase(), 3);
    }

    void inEachState() {
        for (State state : State.all()) {
            due("phase() in " + state, state.makeBox().phase(), state.phase);
        }
    }
}
