/** Promise 13: added tells how many bytes were added since the latest begin(). */
public final class Promise13AddedTest extends Tests {
    public static void main(String[] args) throws IllegalAccessException {
        new Promise13AddedTest().runAll();
    }

    void zeroBeforeBegin() {
        AeadBox box = Boxes.keyed(3);
        box.aad(1);
        box.finish();
        box.reset();
        due("added()", box.added(), 0);
    }

    void oneMoreForEachByte() {
        AeadBox box = new AeadBox(3);
        box.begin(Boxes.TO_OPEN);
        for (int i = 1; i <= 255; i++) {
            box.aad(i);
            due("added() after " + i, box.added(), i);
        }
    }

    void dataDoNotCount() {
        AeadBox box = Boxes.begun(3, Boxes.TO_SEAL);
        box.data(1);
        due("added()", box.added(), 0);
    }

    void bytesThatAreRefusedDoNotCount() {
        AeadBox box = Boxes.begun(3, Boxes.TO_SEAL);
        box.aad(-1);
        box.aad(256);
        due("added() after no bytes", box.added(), 0);
        box.aad(1);
        box.data(1);
        box.aad(1);
        due("added() when DATA", box.added(), 1);
    }

    void staysInEachState() {
        for (State state : State.all()) {
            due("added() in " + state, state.makeBox().added(), state.added);
        }
    }

    void sinceTheLatestBegin() {
        AeadBox box = State.OPENED.makeBox();
        box.reset();
        due("added() after reset()", box.added(), 2);
        box.begin(-1);
        due("added() after a begin() that was refused", box.added(), 2);
        box.begin(Boxes.TO_SEAL);
        due("added() after begin()", box.added(), 0);
        box.aad(8);
        due("added() after aad()", box.added(), 1);
    }
}
