/** Promise 3: setNonceWord sets word i (0 .. 2) of the nonce when IDLE. */
public final class Promise03SetNonceWordTest extends Tests {
    public static void main(String[] args) throws IllegalAccessException {
        new Promise03SetNonceWordTest().runAll();
    }

    void eachWordAlone() {
        for (int i = 0; i < 3; i++) {
            dueWord(i, 0x92B3D4F6);
        }
    }

    void wordsWithOneBit() {
        for (int bit = 0; bit < 32; bit++) {
            dueWord(bit % 3, 1 << bit);
        }
    }

    void smallestAndLargestWords() {
        dueWord(0, Integer.MIN_VALUE);
        dueWord(0, Integer.MAX_VALUE);
        dueWord(2, Integer.MIN_VALUE);
        dueWord(2, Integer.MAX_VALUE);
        dueWord(2, -1);
    }

    void theLaterWordCounts() {
        AeadBox box = new AeadBox(64);
        box.setNonceWord(1, 99);
        box.setNonceWord(1, 4);
        dueNonce(box, new int[] {0, 4, 0});
    }

    void aWordBackToZero() {
        AeadBox box = new AeadBox(64);
        box.setNonceWord(2, 99);
        due("setNonceWord(2, 0)", box.setNonceWord(2, 0), true);
        dueNonce(box, new int[3]);
    }

    void indexJustBelowRange() {
        dueFalse(State.all(), "setNonceWord(-1, 9)", box -> box.setNonceWord(-1, 9));
    }

    void indexJustAboveRange() {
        dueFalse(State.all(), "setNonceWord(3, 9)", box -> box.setNonceWord(3, 9));
    }

    void indexFarOutOfRange() {
        dueFalse(State.all(), "setNonceWord(MIN, 9)", box -> box.setNonceWord(Integer.MIN_VALUE, 9));
        dueFalse(State.all(), "setNonceWord(MAX, 9)", box -> box.setNonceWord(Integer.MAX_VALUE, 9));
    }

    /** Not words before the nonce either: the key and the count stand there in the stream's words. */
    void indicesBeforeTheNonceAreNoWords() {
        for (int i = -13; i < 0; i++) {
            int index = i;
            dueFalse(State.in(Boxes.IDLE), "setNonceWord(" + i + ", 9)", box -> box.setNonceWord(index, 9));
        }
    }

    void refusedWhenNotIdle() {
        dueFalse(State.notIn(Boxes.IDLE), "setNonceWord(0, 7)", box -> box.setNonceWord(0, 7));
        dueFalse(State.notIn(Boxes.IDLE), "setNonceWord(2, 7)", box -> box.setNonceWord(2, 7));
    }

    void takenAgainAfterReset() {
        for (State state : State.all()) {
            AeadBox box = state.makeBox();
            box.reset();
            due("setNonceWord(2, 7) after " + state, box.setNonceWord(2, 7), true);
            int[] nonce = Boxes.NONCE.clone();
            nonce[2] = 7;
            box.begin(Boxes.TO_SEAL);
            due("data(0)", box.data(0), Oracle.xorStream(Boxes.KEY, nonce, new byte[1])[0] & 255);
        }
    }

    void countsAndPhaseStay() {
        AeadBox box = State.OPENED_THEN_RESET.makeBox();
        box.setNonceWord(0, 9);
        dueStanding("after setNonceWord(0, 9)", box, Boxes.IDLE, 2, 3);
    }

    private void dueWord(int i, int w) {
        AeadBox box = new AeadBox(64);
        due("setNonceWord(" + i + ", " + w + ")", box.setNonceWord(i, w), true);
        int[] nonce = new int[3];
        nonce[i] = w;
        dueNonce(box, nonce);
    }

    private void dueNonce(AeadBox box, int[] nonce) {
        box.begin(Boxes.TO_SEAL);
        byte[] plain = Boxes.row(64, 1);
        Boxes.putIn(box, Boxes.NO_ROW, plain);
        dueOut(box, Oracle.xorStream(new int[8], nonce, plain));
        dueTag(box, Oracle.tagOf(new int[8], nonce, Boxes.NO_ROW, plain));
    }
}
