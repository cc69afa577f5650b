/** Promise 12: length tells how many bytes of data there were since the latest begin(). */
public final class Promise12LengthTest extends Tests {
    public static void main(String[] args) throws IllegalAccessException {
        new Promise12LengthTest().runAll();
    }

    void zeroBeforeBegin() {
        AeadBox box = Boxes.keyed(3);
        box.data(1);
        box.finish();
        box.reset();
        due("length()", box.length(), 0);
    }

    void oneMoreForEachByteUpToTheCap() {
        AeadBox box = Boxes.begun(200, Boxes.TO_SEAL);
        for (int i = 1; i <= 202; i++) {
            box.data(i);
            due("length() after " + i, box.length(), Math.min(200, i));
        }
    }

    void bytesThatAreAddedDoNotCount() {
        AeadBox box = Boxes.begun(3, Boxes.TO_SEAL);
        box.aad(1);
        due("length()", box.length(), 0);
    }

    void staysInEachState() {
        for (State state : State.all()) {
            due("length() in " + state, state.makeBox().length(), state.length);
        }
    }

    void sinceTheLatestBegin() {
        AeadBox box = State.DONE_SEALING.makeBox();
        box.reset();
        due("length() after reset()", box.length(), 3);
        box.begin(2);
        due("length() after a begin() that was refused", box.length(), 3);
        box.begin(Boxes.TO_OPEN);
        due("length() after begin()", box.length(), 0);
        box.data(8);
        due("length() after data()", box.length(), 1);
    }
}
