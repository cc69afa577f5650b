/** Each promise of the document by itself: ordinary inputs, its edges, and wrong inputs. */
public final class PromisesTest {
    private static final int[] NO_BYTES = {-1, 256, Integer.MIN_VALUE, Integer.MAX_VALUE};

    private final Check check = new Check();

    public static void main(String[] args) {
        PromisesTest test = new PromisesTest();
        test.newObject();
        test.newObjectCap();
        test.keyWords();
        test.nonceWords();
        test.begin();
        test.beginAnew();
        test.beginAfterPartOfARow();
        test.expectedIsZeroAtFirst();
        test.aad();
        test.aadLimit();
        test.data();
        test.dataRefused();
        test.finish();
        test.expectTag();
        test.verify();
        test.verifyEachBit();
        test.tag();
        test.tagsOfManyLengths();
        test.outWhenSealing();
        test.outWhenOpening();
        test.lengths();
        test.phases();
        test.reset();
        test.check.end();
    }

    private void newObject() {
        AeadBox box = new AeadBox(1);
        due("1: phase()", box.phase(), Boxes.IDLE);
        due("1: length()", box.length(), 0);
        due("1: added()", box.added(), 0);
        due("1: out(0)", box.out(0), -1);
        due("1: tag(0)", box.tag(0), -1);
        box.begin(Boxes.TO_SEAL);
        due("1: data(0) by key and nonce 0", box.data(0), streamByte(new int[8], new int[3], 0));
        box.finish();
        dueTag("1", box, Oracle.tagOf(new int[8], new int[3], new byte[0], new byte[1]));
    }

    private void newObjectCap() {
        int[] asked = {Integer.MIN_VALUE, -1, 0, 1, 399, 400, 401, Integer.MAX_VALUE};
        int[] given = {0, 0, 0, 1, 399, 400, 400, 400};
        for (int k = 0; k < asked.length; k++) {
            AeadBox box = Boxes.begun(asked[k], Boxes.TO_OPEN);
            for (int i = 0; i < given[k]; i++) {
                due("1: data(7) with cap " + asked[k], box.data(7), 0);
            }
            due("1: data(7) beyond cap " + asked[k], box.data(7), -2);
            due("1: length() with cap " + asked[k], box.length(), given[k]);
        }
    }

    private void keyWords() {
        AeadBox box = new AeadBox(64);
        int[] key = new int[8];
        for (int i = 0; i < 8; i++) {
            key[i] = 0x80FF0102 + i * 0x01234567;
            due("2: setKeyWord(" + i + ")", box.setKeyWord(i, key[i]), true);
        }
        for (int i : new int[] {-1, 8, Integer.MIN_VALUE, Integer.MAX_VALUE}) {
            due("2: setKeyWord(" + i + ")", box.setKeyWord(i, 5), false);
        }
        box.begin(Boxes.TO_SEAL);
        dueStream("2", box, key, new int[3]);
        refusedButIdle("2: setKeyWord(0, 9)", new Call() {
            @Override
            public int on(AeadBox other) {
                return other.setKeyWord(0, 9) ? 1 : 0;
            }
        });
    }

    private void nonceWords() {
        AeadBox box = new AeadBox(64);
        int[] nonce = new int[3];
        for (int i = 0; i < 3; i++) {
            nonce[i] = 0x90FF0304 + i * 0x07654321;
            due("3: setNonceWord(" + i + ")", box.setNonceWord(i, nonce[i]), true);
        }
        for (int i : new int[] {-1, 3, Integer.MIN_VALUE, Integer.MAX_VALUE}) {
            due("3: setNonceWord(" + i + ")", box.setNonceWord(i, 5), false);
        }
        box.begin(Boxes.TO_SEAL);
        dueStream("3", box, new int[8], nonce);
        refusedButIdle("3: setNonceWord(0, 9)", new Call() {
            @Override
            public int on(AeadBox other) {
                return other.setNonceWord(0, 9) ? 1 : 0;
            }
        });
    }

    /** One call of the face, so that it can be made in every phase. */
    private interface Call {
        int on(AeadBox box);
    }

    /** The call must be taken when IDLE, and in every other phase be refused and leave the stream as it was. */
    private void refusedButIdle(String name, Call call) {
        AeadBox[] boxes = Boxes.inEachPhase();
        for (int k = 0; k < boxes.length; k++) {
            due(name + " in state " + k, call.on(boxes[k]), k == 0 ? 1 : 0);
            boxes[k].reset();
            boxes[k].begin(Boxes.TO_SEAL);
            boolean asBefore = boxes[k].data(0) == streamByte(new int[8], new int[3], 0);
            due(name + " left the stream in state " + k, asBefore, k != 0);
        }
    }

    private void begin() {
        for (int dir : new int[] {-1, 2, Integer.MIN_VALUE, Integer.MAX_VALUE}) {
            AeadBox box = new AeadBox(4);
            due("4: begin(" + dir + ")", box.begin(dir), false);
            due("4: phase() after begin(" + dir + ")", box.phase(), Boxes.IDLE);
        }
        for (int dir = 0; dir <= 1; dir++) {
            AeadBox[] boxes = Boxes.inEachPhase();
            for (int k = 0; k < boxes.length; k++) {
                int before = boxes[k].phase();
                due("4: begin(" + dir + ") in state " + k, boxes[k].begin(dir), k == 0);
                due("4: phase() of state " + k, boxes[k].phase(), k == 0 ? Boxes.ADDING : before);
                due("4: length() of state " + k, boxes[k].length(), k < 2 ? 0 : 2);
                due("4: added() of state " + k, boxes[k].added(), k < 2 ? 0 : 2);
            }
        }
        AeadBox opening = Boxes.begun(4, Boxes.TO_OPEN);
        opening.begin(Boxes.TO_SEAL);
        due("4: data(1) still opening", opening.data(1), 0);
    }

    private void beginAnew() {
        AeadBox box = Boxes.opened();
        box.reset();
        due("4: begin(7) with lengths", box.begin(7), false);
        due("4: length() after begin(7)", box.length(), 2);
        due("4: added() after begin(7)", box.added(), 2);
        due("4: begin(1) again", box.begin(Boxes.TO_OPEN), true);
        due("4: length() after begin(1)", box.length(), 0);
        due("4: added() after begin(1)", box.added(), 0);
        box.aad(1);
        box.aad(2);
        box.data(3);
        box.data(4);
        box.finish();
        due("4: verify() by the tag of the run before", box.verify(), false);
        Boxes.expectTagOf(box, Boxes.tagWhenOpening());
        box.expectTag(5, 0);
        due("4: verify() with byte 5 not 0", box.verify(), Boxes.tagWhenOpening()[5] == 0);
        box.reset();
        box.begin(Boxes.TO_SEAL);
        box.data(9);
        box.finish();
        due("4: out(1) of the run before", box.out(1), -1);
        dueTag("4", box, Oracle.tagOf(new int[8], new int[3], new byte[0], new byte[] {9}));
    }

    private void beginAfterPartOfARow() {
        byte[] due = Oracle.tagOf(new int[8], new int[3], new byte[] {1, 2}, new byte[] {3, 4});
        for (int data = 0; data <= 1; data++) {
            AeadBox box = Boxes.begun(4, Boxes.TO_SEAL);
            box.aad(200);
            if (data == 1) {
                box.data(201);
            }
            box.reset();
            box.begin(Boxes.TO_SEAL);
            box.aad(1);
            box.aad(2);
            box.data(3);
            box.data(4);
            box.finish();
            dueTag("4", box, due);
        }
    }

    /** A tag with a byte 0 is looked for, so that leaving that byte unset must be right. */
    private void expectedIsZeroAtFirst() {
        int found = 0;
        for (int b = 0; b < 256; b++) {
            byte[] plain = Oracle.xorStream(new int[8], new int[3], new byte[] {(byte) b});
            byte[] tag = Oracle.tagOf(new int[8], new int[3], new byte[0], plain);
            AeadBox box = new AeadBox(1);
            expectAllOnes(box);
            box.begin(Boxes.TO_OPEN);
            box.data(b);
            box.finish();
            for (int i = 0; i < tag.length; i++) {
                if (tag[i] != 0) {
                    box.expectTag(i, tag[i] & 255);
                } else {
                    found++;
                }
            }
            due("4: verify() with the 0s unset, data " + b, box.verify(), true);
        }
        due("4: some tag had a byte 0", found > 0, true);
    }

    private static void expectAllOnes(AeadBox box) {
        box.begin(Boxes.TO_OPEN);
        box.finish();
        for (int i = 0; i < Oracle.TAG_BYTES; i++) {
            box.expectTag(i, 255);
        }
        box.reset();
    }

    private void aad() {
        AeadBox[] boxes = Boxes.inEachPhase();
        for (int k = 0; k < boxes.length; k++) {
            int before = boxes[k].added();
            due("5: aad(1) in state " + k, boxes[k].aad(1), k == Boxes.ADDING);
            due("5: added() in state " + k, boxes[k].added(), k == Boxes.ADDING ? 1 : before);
        }
        AeadBox box = Boxes.begun(0, Boxes.TO_SEAL);
        for (int b : NO_BYTES) {
            due("5: aad(" + b + ")", box.aad(b), false);
        }
        due("5: added() after no bytes", box.added(), 0);
        due("5: aad(0)", box.aad(0), true);
        due("5: aad(255)", box.aad(255), true);
        due("5: phase()", box.phase(), Boxes.ADDING);
        box.finish();
        dueTag("5", box, Oracle.tagOf(new int[8], new int[3], new byte[] {0, -1}, new byte[0]));
    }

    /** Beyond 512 calls answers are free; this holds the limit that the document names all the same. */
    private void aadLimit() {
        AeadBox box = Boxes.begun(0, Boxes.TO_SEAL);
        for (int i = 0; i < 1000; i++) {
            due("5: aad(" + (i & 255) + ")", box.aad(i & 255), true);
        }
        due("5: aad(1) once more", box.aad(1), false);
        due("5: added() at most", box.added(), 1000);
    }

    private void data() {
        byte[] plain = new byte[400];
        for (int i = 0; i < plain.length; i++) {
            plain[i] = (byte) (i * 7 + 250);
        }
        byte[] sealed = Oracle.xorStream(new int[8], new int[3], plain);
        AeadBox sealing = Boxes.begun(400, Boxes.TO_SEAL);
        AeadBox opening = Boxes.begun(400, Boxes.TO_OPEN);
        for (int i = 0; i < plain.length; i++) {
            due("6: data() " + i + " when sealing", sealing.data(plain[i] & 255), sealed[i] & 255);
            due("6: data() " + i + " when opening", opening.data(sealed[i] & 255), 0);
        }
        due("6: phase() when sealing", sealing.phase(), Boxes.DATA);
        due("6: phase() when opening", opening.phase(), Boxes.DATA);
    }

    private void dataRefused() {
        AeadBox[] boxes = Boxes.inEachPhase();
        for (int k = 0; k < boxes.length; k++) {
            int before = boxes[k].length();
            boolean taken = k == Boxes.ADDING || k == Boxes.DATA;
            due("6: data(0) in state " + k, boxes[k].data(0) >= 0, taken);
            due("6: length() in state " + k, boxes[k].length(), taken ? before + 1 : before);
        }
        due("6: data(0) when DONE", Boxes.done(Boxes.TO_OPEN).data(0), -1);
        AeadBox box = Boxes.begun(1, Boxes.TO_SEAL);
        for (int b : NO_BYTES) {
            due("6: data(" + b + ")", box.data(b), -1);
            due("6: phase() after no byte", box.phase(), Boxes.ADDING);
        }
        due("6: aad(1) after no byte", box.aad(1), true);
        box.data(0);
        due("6: data(0) when full", box.data(0), -2);
        due("6: length() when full", box.length(), 1);
        due("6: data(256) when full", box.data(256), -1);
        AeadBox none = Boxes.begun(0, Boxes.TO_SEAL);
        due("6: data(0) with cap 0", none.data(0), -2);
        due("6: phase() with cap 0", none.phase(), Boxes.ADDING);
        due("6: aad(1) with cap 0", none.aad(1), true);
        none.finish();
        due("6: data(0) with cap 0 when DONE", none.data(0), -1);
        dueTag("6", none, Oracle.tagOf(new int[8], new int[3], new byte[] {1}, new byte[0]));
    }

    private void finish() {
        AeadBox[] boxes = Boxes.inEachPhase();
        for (int k = 0; k < boxes.length; k++) {
            int before = boxes[k].phase();
            boolean taken = k == Boxes.ADDING || k == Boxes.DATA;
            due("7: finish() in state " + k, boxes[k].finish(), taken);
            due("7: phase() in state " + k, boxes[k].phase(), taken ? Boxes.DONE : before);
        }
        AeadBox twice = Boxes.done(Boxes.TO_SEAL);
        int first = twice.tag(0);
        due("7: finish() again", twice.finish(), false);
        due("7: tag(0) after finish() again", twice.tag(0), first);
    }

    private void expectTag() {
        AeadBox[] boxes = Boxes.inEachPhase();
        for (int k = 0; k < boxes.length; k++) {
            due("8: expectTag(0, 0) in state " + k, boxes[k].expectTag(0, 0), k == boxes.length - 1);
        }
        due("8: expectTag(0, 0) before finish()", Boxes.withData(Boxes.TO_OPEN).expectTag(0, 0), false);
        AeadBox box = Boxes.done(Boxes.TO_OPEN);
        Boxes.expectTagOf(box, Boxes.tagWhenOpening());
        for (int i : new int[] {-1, 16, Integer.MIN_VALUE, Integer.MAX_VALUE}) {
            due("8: expectTag(" + i + ", 0)", box.expectTag(i, 0), false);
        }
        for (int b : NO_BYTES) {
            due("8: expectTag(0, " + b + ")", box.expectTag(0, b), false);
            due("8: expectTag(15, " + b + ")", box.expectTag(15, b), false);
        }
        due("8: expectTag(0, 255)", box.expectTag(0, 255), true);
        due("8: expectTag(15, 0)", box.expectTag(15, 0), true);
        due("8: verify() by a spoilt tag", box.verify(), false);
        Boxes.expectTagOf(box, Boxes.tagWhenOpening());
        due("8: expectTag(-1, 0) once right", box.expectTag(-1, 0), false);
        due("8: expectTag(3, 256) once right", box.expectTag(3, 256), false);
        due("8: verify() after refused calls", box.verify(), true);
    }

    private void verify() {
        AeadBox[] boxes = Boxes.inEachPhase();
        for (int k = 0; k < boxes.length; k++) {
            int before = boxes[k].phase();
            due("9: verify() in state " + k, boxes[k].verify(), false);
            due("9: phase() in state " + k, boxes[k].phase(), before);
        }
        AeadBox box = Boxes.done(Boxes.TO_OPEN);
        Boxes.expectTagOf(box, Boxes.tagWhenOpening());
        due("9: verify()", box.verify(), true);
        due("9: phase()", box.phase(), Boxes.OPENED);
        due("9: verify() again", box.verify(), false);
        due("9: phase() again", box.phase(), Boxes.OPENED);
    }

    private void verifyEachBit() {
        byte[] tag = Boxes.tagWhenOpening();
        for (int bit = 0; bit < 8 * tag.length; bit++) {
            AeadBox box = Boxes.done(Boxes.TO_OPEN);
            Boxes.expectTagOf(box, tag);
            int right = tag[bit / 8] & 255;
            box.expectTag(bit / 8, right ^ (1 << (bit % 8)));
            due("9: verify() with bit " + bit + " wrong", box.verify(), false);
            due("9: phase() with bit " + bit + " wrong", box.phase(), Boxes.DONE);
            box.expectTag(bit / 8, right);
            due("9: verify() with bit " + bit + " mended", box.verify(), true);
        }
    }

    private void tag() {
        AeadBox[] boxes = Boxes.inEachPhase();
        for (int k = 0; k < boxes.length; k++) {
            due("10: tag(0) told in state " + k, boxes[k].tag(0) != -1, k == Boxes.DONE);
        }
        AeadBox box = Boxes.done(Boxes.TO_SEAL);
        dueTag("10", box, Oracle.tagOf(new int[8], new int[3], new byte[] {1, 2}, new byte[] {3, 4}));
        for (int i : new int[] {-1, 16, Integer.MIN_VALUE, Integer.MAX_VALUE}) {
            due("10: tag(" + i + ")", box.tag(i), -1);
        }
        box.reset();
        due("10: tag(0) when IDLE", box.tag(0), -1);
    }

    private void tagsOfManyLengths() {
        for (int added = 0; added <= 33; added++) {
            for (int data = 0; data <= 33; data++) {
                tagOfLengths(added, data);
            }
        }
        tagOfLengths(0, 400);
        tagOfLengths(257, 1);
        tagOfLengths(480, 0);
    }

    private void tagOfLengths(int added, int data) {
        AeadBox box = Boxes.begun(400, Boxes.TO_SEAL);
        byte[] addedRow = new byte[added];
        byte[] dataRow = new byte[data];
        for (int i = 0; i < added; i++) {
            addedRow[i] = (byte) (255 - i);
            box.aad(addedRow[i] & 255);
        }
        for (int i = 0; i < data; i++) {
            dataRow[i] = (byte) (128 + i);
            box.data(dataRow[i] & 255);
        }
        box.finish();
        dueTag("10, " + added + " and " + data, box, Oracle.tagOf(new int[8], new int[3], addedRow, dataRow));
    }

    private void outWhenSealing() {
        AeadBox[] boxes = Boxes.inEachPhase();
        for (int k = 0; k < boxes.length; k++) {
            due("11: out(0) told in state " + k, boxes[k].out(0) != -1, k == Boxes.DONE || k == Boxes.OPENED);
        }
        AeadBox box = Boxes.begun(400, Boxes.TO_SEAL);
        byte[] sealed = Oracle.xorStream(new int[8], new int[3], new byte[150]);
        for (int i = 0; i < sealed.length; i++) {
            box.data(0);
            due("11: out(0) when DATA", box.out(0), -1);
        }
        box.finish();
        for (int i = 0; i < sealed.length; i++) {
            due("11: out(" + i + ")", box.out(i), sealed[i] & 255);
        }
        for (int i : new int[] {-1, 150, 399, 400, Integer.MIN_VALUE, Integer.MAX_VALUE}) {
            due("11: out(" + i + ")", box.out(i), -1);
        }
        box.reset();
        due("11: out(0) when IDLE", box.out(0), -1);
        AeadBox empty = Boxes.begun(4, Boxes.TO_SEAL);
        empty.finish();
        due("11: out(0) with no data", empty.out(0), -1);
    }

    private void outWhenOpening() {
        byte[] plain = Oracle.xorStream(new int[8], new int[3], new byte[] {3, 4});
        AeadBox box = Boxes.done(Boxes.TO_OPEN);
        due("11: out(0) before verify()", box.out(0), -1);
        box.verify();
        due("11: out(0) after a wrong verify()", box.out(0), -1);
        Boxes.expectTagOf(box, Boxes.tagWhenOpening());
        due("11: out(0) with the tag set, before verify()", box.out(0), -1);
        box.verify();
        due("11: out(0) opened", box.out(0), plain[0] & 255);
        due("11: out(1) opened", box.out(1), plain[1] & 255);
        due("11: out(2) opened", box.out(2), -1);
        due("11: out(-1) opened", box.out(-1), -1);
        box.reset();
        due("11: out(0) after reset()", box.out(0), -1);
    }

    private void lengths() {
        AeadBox box = new AeadBox(3);
        box.aad(1);
        box.data(1);
        due("12: length() before begin()", box.length(), 0);
        due("13: added() before begin()", box.added(), 0);
        box.begin(Boxes.TO_SEAL);
        for (int i = 1; i <= 20; i++) {
            box.aad(i);
            due("13: added()", box.added(), i);
            due("12: length() when ADDING", box.length(), 0);
        }
        for (int i = 1; i <= 5; i++) {
            box.data(i);
            due("12: length()", box.length(), Math.min(3, i));
            due("13: added() when DATA", box.added(), 20);
        }
        box.finish();
        due("12: length() when DONE", box.length(), 3);
        due("13: added() when DONE", box.added(), 20);
        due("12: length() when OPENED", Boxes.opened().length(), 2);
        due("13: added() when OPENED", Boxes.opened().added(), 2);
    }

    private void phases() {
        int[] phases = {Boxes.IDLE, Boxes.ADDING, Boxes.DATA, Boxes.DONE, Boxes.OPENED, Boxes.DONE};
        AeadBox[] boxes = Boxes.inEachPhase();
        for (int k = 0; k < boxes.length; k++) {
            due("14: phase() in state " + k, boxes[k].phase(), phases[k]);
        }
    }

    private void reset() {
        AeadBox[] boxes = Boxes.inEachPhase();
        for (int k = 0; k < boxes.length; k++) {
            int length = boxes[k].length();
            int added = boxes[k].added();
            boxes[k].reset();
            due("15: phase() in state " + k, boxes[k].phase(), Boxes.IDLE);
            due("15: length() in state " + k, boxes[k].length(), length);
            due("15: added() in state " + k, boxes[k].added(), added);
        }
        int[] key = {1, 2, 3, 4, 5, 6, 7, -8};
        int[] nonce = {9, -10, 11};
        AeadBox box = new AeadBox(64);
        for (int i = 0; i < 8; i++) {
            box.setKeyWord(i, key[i]);
        }
        for (int i = 0; i < 3; i++) {
            box.setNonceWord(i, nonce[i]);
        }
        for (int k = 0; k < 3; k++) {
            box.begin(Boxes.TO_SEAL);
            dueStream("15", box, key, nonce);
            box.reset();
        }
    }

    /** Seals 64 zeros in a box that was just begun: what comes is the stream. */
    private void dueStream(String promise, AeadBox box, int[] key, int[] nonce) {
        byte[] stream = Oracle.xorStream(key, nonce, new byte[64]);
        for (int i = 0; i < 64; i++) {
            due(promise + ": data(0) at " + i, box.data(0), stream[i] & 255);
        }
    }

    private void dueTag(String promise, AeadBox box, byte[] tag) {
        for (int i = 0; i < tag.length; i++) {
            due(promise + ": tag(" + i + ")", box.tag(i), tag[i] & 255);
        }
    }

    private static int streamByte(int[] key, int[] nonce, int i) {
        return Oracle.xorStream(key, nonce, new byte[i + 1])[i] & 255;
    }

    private void due(String call, int got, int want) {
        check.due("promise " + call, got, want);
    }

    private void due(String call, boolean got, boolean want) {
        check.due("promise " + call, got, want);
    }
}
