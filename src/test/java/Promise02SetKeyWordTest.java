/** Promise 2: setKeyWord sets word i (0 .. 7) of the key when IDLE. */
public final class Promise02SetKeyWordTest extends Tests {
    public static void main(String[] args) throws IllegalAccessException {
        new Promise02SetKeyWordTest().runAll();
    }

    void eachWordAlone() {
        for (int i = 0; i < 8; i++) {
            dueWord(i, 0x81A2C3E5);
        }
    }

    void wordsWithOneBit() {
        for (int bit = 0; bit < 32; bit++) {
            dueWord(bit % 8, 1 << bit);
        }
    }

    void smallestAndLargestWords() {
        dueWord(0, Integer.MIN_VALUE);
        dueWord(0, Integer.MAX_VALUE);
        dueWord(7, Integer.MIN_VALUE);
        dueWord(7, Integer.MAX_VALUE);
        dueWord(7, -1);
    }

    void theLaterWordCounts() {
        AeadBox box = new AeadBox(64);
        box.setKeyWord(3, 99);
        box.setKeyWord(3, 4);
        dueKey(box, new int[] {0, 0, 0, 4, 0, 0, 0, 0});
    }

    void aWordBackToZero() {
        AeadBox box = new AeadBox(64);
        box.setKeyWord(7, 99);
        due("setKeyWord(7, 0)", box.setKeyWord(7, 0), true);
        dueKey(box, new int[8]);
    }

    void indexJustBelowRange() {
        dueFalse(State.all(), "setKeyWord(-1, 9)", box -> box.setKeyWord(-1, 9));
    }

    void indexJustAboveRange() {
        dueFalse(State.all(), "setKeyWord(8, 9)", box -> box.setKeyWord(8, 9));
    }

    void indexFarOutOfRange() {
        dueFalse(State.all(), "setKeyWord(MIN, 9)", box -> box.setKeyWord(Integer.MIN_VALUE, 9));
        dueFalse(State.all(), "setKeyWord(MAX, 9)", box -> box.setKeyWord(Integer.MAX_VALUE, 9));
    }

    /** Not words behind the key either: the count and the nonce follow it in the stream's words. */
    void indicesBehindTheKeyAreNoWords() {
        for (int i = 8; i < 16; i++) {
            int index = i;
            dueFalse(State.in(Boxes.IDLE), "setKeyWord(" + i + ", 9)", box -> box.setKeyWord(index, 9));
        }
    }

    void refusedWhenNotIdle() {
        dueFalse(State.notIn(Boxes.IDLE), "setKeyWord(0, 9)", box -> box.setKeyWord(0, 9));
        dueFalse(State.notIn(Boxes.IDLE), "setKeyWord(7, 9)", box -> box.setKeyWord(7, 9));
    }

    void takenAgainAfterReset() {
        for (State state : State.all()) {
            AeadBox box = state.makeBox();
            box.reset();
            due("setKeyWord(0, 9) after " + state, box.setKeyWord(0, 9), true);
            int[] key = Boxes.KEY.clone();
            key[0] = 9;
            box.begin(Boxes.TO_SEAL);
            due("data(0)", box.data(0), Oracle.xorStream(key, Boxes.NONCE, new byte[1])[0] & 255);
        }
    }

    void countsAndPhaseStay() {
        AeadBox box = State.OPENED_THEN_RESET.makeBox();
        box.setKeyWord(0, 9);
        dueStanding("after setKeyWord(0, 9)", box, Boxes.IDLE, 2, 3);
    }

    private void dueWord(int i, int w) {
        AeadBox box = new AeadBox(64);
        due("setKeyWord(" + i + ", " + w + ")", box.setKeyWord(i, w), true);
        int[] key = new int[8];
        key[i] = w;
        dueKey(box, key);
    }

    private void dueKey(AeadBox box, int[] key) {
        box.begin(Boxes.TO_SEAL);
        byte[] plain = Boxes.row(64, 1);
        Boxes.putIn(box, Boxes.NO_ROW, plain);
        dueOut(box, Oracle.xorStream(key, new int[3], plain));
        dueTag(box, Oracle.tagOf(key, new int[3], Boxes.NO_ROW, plain));
    }
}
