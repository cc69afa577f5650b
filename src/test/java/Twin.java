/** A box and its model, which get the same calls: each answer of the box must be the model's. */
final class Twin {
    final AeadBox box;
    final ModelBox model;
    private final Check check;
    private final String name;
    private int calls = 0;

    Twin(Check check, String name, int cap) {
        this.check = check;
        this.name = name;
        box = new AeadBox(cap);
        model = new ModelBox(cap);
    }

    int calls() {
        return calls;
    }

    void setKeyWord(int i, int w) {
        same("setKeyWord(" + i + ", " + w + ")", box.setKeyWord(i, w), model.setKeyWord(i, w));
    }

    void setNonceWord(int i, int w) {
        same("setNonceWord(" + i + ", " + w + ")", box.setNonceWord(i, w), model.setNonceWord(i, w));
    }

    void begin(int dir) {
        same("begin(" + dir + ")", box.begin(dir), model.begin(dir));
    }

    void aad(int b) {
        same("aad(" + b + ")", box.aad(b), model.aad(b));
    }

    void data(int b) {
        same("data(" + b + ")", box.data(b), model.data(b));
    }

    void finish() {
        same("finish()", box.finish(), model.finish());
    }

    void expectTag(int i, int b) {
        same("expectTag(" + i + ", " + b + ")", box.expectTag(i, b), model.expectTag(i, b));
    }

    void verify() {
        same("verify()", box.verify(), model.verify());
    }

    void tag(int i) {
        same("tag(" + i + ")", box.tag(i), model.tag(i));
    }

    void out(int i) {
        same("out(" + i + ")", box.out(i), model.out(i));
    }

    void length() {
        same("length()", box.length(), model.length());
    }

    void added() {
        same("added()", box.added(), model.added());
    }

    void phase() {
        same("phase()", box.phase(), model.phase());
    }

    void reset() {
        calls++;
        box.reset();
        model.reset();
    }

    private void same(String call, boolean got, boolean want) {
        same(call, got ? 1 : 0, want ? 1 : 0);
    }

    private void same(String call, int got, int want) {
        calls++;
        check.due(name + ", call " + calls + ": " + call, got, want);
    }
}
