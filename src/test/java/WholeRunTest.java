/** An object is used for at most 512 calls: runs of just so many, looked at to the last call. */
public final class WholeRunTest extends Tests {
    private static final int CALLS = 512;

    public static void main(String[] args) throws IllegalAccessException {
        new WholeRunTest().runAll();
    }

    /** 11 words, begin(), 400 bytes, finish(), 16 bytes of the tag: 83 calls of out() are left. */
    void sealFourHundredBytesIn512Calls() {
        byte[] plain = Boxes.row(400, 90);
        byte[] sealed = Boxes.crossed(plain);
        AeadBox box = Boxes.done(Boxes.TO_SEAL, Boxes.NO_ROW, plain);
        dueTag(box, Boxes.tagOfPlain(Boxes.NO_ROW, plain));
        for (int i = 400 - (CALLS - 429); i < 400; i++) {
            due("out(" + i + ")", box.out(i), sealed[i] & 255);
        }
    }

    /** 11 words, begin(), 400 bytes, finish(), 16 of the tag, verify(): 82 calls of out() are left. */
    void openFourHundredBytesIn512Calls() {
        byte[] sealed = Boxes.row(400, 91);
        byte[] plain = Boxes.crossed(sealed);
        AeadBox box = Boxes.done(Boxes.TO_OPEN, Boxes.NO_ROW, sealed);
        Boxes.expect(box, Boxes.tagOfSealed(Boxes.NO_ROW, sealed));
        due("verify()", box.verify(), true);
        for (int i = 400 - (CALLS - 430); i < 400; i++) {
            due("out(" + i + ")", box.out(i), plain[i] & 255);
        }
    }

    /** 11 words, begin(), 241 bytes, finish(), 16 of the tag, verify(), and the 241 bytes told. */
    void openAndTellAllOf241BytesIn512Calls() {
        byte[] sealed = Boxes.row((CALLS - 30) / 2, 93);
        byte[] plain = Boxes.crossed(sealed);
        AeadBox box = Boxes.done(Boxes.TO_OPEN, Boxes.NO_ROW, sealed);
        Boxes.expect(box, Boxes.tagOfSealed(Boxes.NO_ROW, sealed));
        due("verify()", box.verify(), true);
        for (int i = 0; i < 241; i++) {
            due("out(" + i + ")", box.out(i), plain[i] & 255);
        }
    }

    /** 11 words, begin(), 483 bytes added, finish() and 16 bytes of the tag. */
    void addIn512Calls() {
        byte[] added = Boxes.row(CALLS - 29, 92);
        AeadBox box = Boxes.done(Boxes.TO_SEAL, added, Boxes.NO_ROW);
        dueTag(box, Boxes.tagOfPlain(added, Boxes.NO_ROW));
    }

    /** 11 words, then begin() and reset() 249 times: the next row is as if they had not been. */
    void beginAndResetIn512Calls() {
        AeadBox box = Boxes.keyed(1);
        for (int i = 0; i < 249; i++) {
            due("begin() at " + i, box.begin(i % 2), true);
            box.reset();
        }
        due("begin(0)", box.begin(Boxes.TO_SEAL), true);
        due("data(0)", box.data(0), Boxes.crossed(new byte[1])[0] & 255);
        due("length()", box.length(), 1);
    }
}
