import java.util.Random;

/** Runs of up to 512 calls, from fixed seeds, on a box and on the model: they must agree. */
public final class RandomRunsTest {
    private static final int RUNS = 3000;
    private static final int CALLS = 512;
    private static final int[] CAPS = {-1, 0, 1, 15, 16, 17, 63, 64, 65, 128, 200, 399, 400, 401, 1000};
    private static final int[] ODD_NUMBERS = {-1, 256, 257, 16, 400, Integer.MIN_VALUE, Integer.MAX_VALUE};

    private final Check check;
    private final Random random;
    private final int run;
    private final AeadBox box;
    private final ModelBox model;
    private int calls = 0;

    private RandomRunsTest(Check check, int run) {
        this.check = check;
        this.run = run;
        random = new Random(run);
        int cap = CAPS[random.nextInt(CAPS.length)];
        box = new AeadBox(cap);
        model = new ModelBox(cap);
    }

    public static void main(String[] args) {
        Check check = new Check();
        for (int run = 0; run < RUNS; run++) {
            RandomRunsTest test = new RandomRunsTest(check, run);
            if (run % 2 == 0) {
                test.wander();
            } else {
                test.sealAndOpen();
            }
        }
        check.end();
    }

    private void wander() {
        while (calls < CALLS - 20) {
            int kind = random.nextInt(40);
            if (kind < 15) {
                anyCall(kind);
            } else if (model.phase() == 0) {
                anyCall(kind < 30 ? kind % 2 : 2);
            } else if (model.phase() == 1) {
                anyCall(kind < 37 ? 3 : 4);
            } else if (model.phase() == 2) {
                anyCall(kind < 39 ? 4 : 5);
            } else if (model.phase() == 3 && kind < 20) {
                guessTag();
            } else {
                anyCall(8 + kind % 2);
            }
        }
    }

    /** An orderly run, so that long rows are reached, with odd calls strewn in. */
    private void sealAndOpen() {
        for (int i = 0; i < 11; i++) {
            anyCall(i < 8 ? 0 : 1);
        }
        begin(random.nextInt(2));
        int added = random.nextInt(100);
        for (int i = 0; i < added; i++) {
            strayCall();
            aad(random.nextInt(256));
        }
        int data = random.nextInt(300);
        for (int i = 0; i < data && calls < CALLS - 60; i++) {
            strayCall();
            data(random.nextInt(256));
        }
        due("finish()", box.finish(), model.finish());
        guessTag();
        while (calls < CALLS) {
            anyCall(8 + random.nextInt(6));
        }
    }

    private void strayCall() {
        if (random.nextInt(20) == 0) {
            anyCall(new int[] {0, 1, 2, 6, 7, 8, 9, 10, 11, 12}[random.nextInt(10)]);
        }
    }

    private void guessTag() {
        int spoilt = random.nextInt(2) == 0 ? random.nextInt(16) : -1;
        for (int i = 0; i < 16; i++) {
            expectTag(i, model.dueTag(i) ^ (i == spoilt ? 1 << random.nextInt(8) : 0));
        }
        due("verify()", box.verify(), model.verify());
    }

    private void anyCall(int kind) {
        switch (kind) {
            case 0 -> setKeyWord(number(8), random.nextInt());
            case 1 -> setNonceWord(number(3), random.nextInt());
            case 2 -> begin(number(2));
            case 3 -> aad(number(256));
            case 4 -> data(number(256));
            case 5 -> due("finish()", box.finish(), model.finish());
            case 6 -> expectTag(number(16), number(256));
            case 7 -> due("verify()", box.verify(), model.verify());
            case 8 -> tag(number(16));
            case 9 -> out(number(Math.max(1, model.length() + 1)));
            case 10 -> due("length()", box.length(), model.length());
            case 11 -> due("added()", box.added(), model.added());
            case 12 -> due("phase()", box.phase(), model.phase());
            default -> reset();
        }
    }

    /** Most often a number from 0 on below the bound, now and then one that may be wrong. */
    private int number(int bound) {
        if (random.nextInt(16) > 0) {
            return random.nextInt(bound);
        }
        return random.nextBoolean() ? bound : ODD_NUMBERS[random.nextInt(ODD_NUMBERS.length)];
    }

    private void setKeyWord(int i, int w) {
        due("setKeyWord(" + i + ", " + w + ")", box.setKeyWord(i, w), model.setKeyWord(i, w));
    }

    private void setNonceWord(int i, int w) {
        due("setNonceWord(" + i + ", " + w + ")", box.setNonceWord(i, w), model.setNonceWord(i, w));
    }

    private void begin(int dir) {
        due("begin(" + dir + ")", box.begin(dir), model.begin(dir));
    }

    private void aad(int b) {
        due("aad(" + b + ")", box.aad(b), model.aad(b));
    }

    private void data(int b) {
        due("data(" + b + ")", box.data(b), model.data(b));
    }

    private void expectTag(int i, int b) {
        due("expectTag(" + i + ", " + b + ")", box.expectTag(i, b), model.expectTag(i, b));
    }

    private void tag(int i) {
        due("tag(" + i + ")", box.tag(i), model.tag(i));
    }

    private void out(int i) {
        due("out(" + i + ")", box.out(i), model.out(i));
    }

    private void reset() {
        box.reset();
        model.reset();
        calls++;
        due("phase() after reset()", box.phase(), model.phase());
    }

    private void due(String call, boolean got, boolean want) {
        due(call, got ? 1 : 0, want ? 1 : 0);
    }

    private void due(String call, int got, int want) {
        calls++;
        check.due("run " + run + ", call " + calls + ": " + call, got, want);
    }
}
