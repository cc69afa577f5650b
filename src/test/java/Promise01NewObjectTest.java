/** Promise 1: a new object takes up to cap bytes of data, its key and nonce are 0, and it is IDLE. */
public final class Promise01NewObjectTest extends Tests {
    public static void main(String[] args) throws IllegalAccessException {
        new Promise01NewObjectTest().runAll();
    }

    void capFarBelowZeroIsZero() {
        dueRoom(Integer.MIN_VALUE, 0);
    }

    void capJustBelowZeroIsZero() {
        dueRoom(-1, 0);
    }

    void capZero() {
        dueRoom(0, 0);
    }

    void capOne() {
        dueRoom(1, 1);
    }

    void capJustBelow400() {
        dueRoom(399, 399);
    }

    void cap400() {
        dueRoom(400, 400);
    }

    void capJustAbove400Is400() {
        dueRoom(401, 400);
    }

    void capFarAbove400Is400() {
        dueRoom(Integer.MAX_VALUE, 400);
    }

    void keyAndNonceAreZero() {
        AeadBox box = new AeadBox(65);
        box.begin(Boxes.TO_SEAL);
        byte[] plain = Boxes.row(65, 8);
        Boxes.putIn(box, Boxes.NO_ROW, plain);
        dueOut(box, Oracle.xorStream(new int[8], new int[3], plain));
        dueTag(box, Oracle.tagOf(new int[8], new int[3], Boxes.NO_ROW, plain));
    }

    void phaseIsIdleAndNothingCounts() {
        dueStanding("of a new object", new AeadBox(5), Boxes.IDLE, 0, 0);
    }

    void nothingIsTold() {
        dueNothingTold("of a new object", new AeadBox(5));
    }

    /** So many bytes are taken, sealing and opening, and the next is refused. */
    private void dueRoom(int cap, int room) {
        for (int dir = Boxes.TO_SEAL; dir <= Boxes.TO_OPEN; dir++) {
            AeadBox box = Boxes.begun(cap, dir);
            for (int i = 0; i < room; i++) {
                due("data(7) is taken at " + i, box.data(7) >= 0, true);
            }
            due("data(7) at " + room, box.data(7), -2);
            due("length()", box.length(), room);
        }
    }
}
