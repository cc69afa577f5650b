import java.util.Random;

/** Runs of up to 512 calls, from fixed seeds, on a box and on the model: they must agree. */
public final class RandomRunsTest {
    private static final int RUNS = 3000;
    private static final int CALLS = 512;
    private static final int[] CAPS = {-1, 0, 1, 15, 16, 17, 63, 64, 65, 128, 200, 399, 400, 401, 1000};
    private static final int[] ODD_NUMBERS = {-1, 256, 257, 16, 400, Integer.MIN_VALUE, Integer.MAX_VALUE};

    private final Random random;
    private final Twin twin;

    private RandomRunsTest(Check check, int run) {
        random = new Random(run);
        twin = new Twin(check, "run " + run, CAPS[random.nextInt(CAPS.length)]);
    }

    public static void main(String[] args) {
        Check check = new Check();
        for (int run = 0; run < RUNS; run++) {
            RandomRunsTest test = new RandomRunsTest(check, run);
            if (run % 2 == 0) {
                test.wander();
            } else {
                test.sealAndOpen();
            }
        }
        check.end();
    }

    private void wander() {
        while (twin.calls() < CALLS - 20) {
            int kind = random.nextInt(40);
            if (kind < 15) {
                anyCall(kind);
            } else if (twin.model.phase() == 0) {
                anyCall(kind < 30 ? kind % 2 : 2);
            } else if (twin.model.phase() == 1) {
                anyCall(kind < 37 ? 3 : 4);
            } else if (twin.model.phase() == 2) {
                anyCall(kind < 39 ? 4 : 5);
            } else if (twin.model.phase() == 3 && kind < 20) {
                guessTag();
            } else {
                anyCall(8 + kind % 2);
            }
        }
    }

    /** An orderly run, so that long rows are reached, with odd calls strewn in. */
    private void sealAndOpen() {
        for (int i = 0; i < 11; i++) {
            anyCall(i < 8 ? 0 : 1);
        }
        twin.begin(random.nextInt(2));
        int added = random.nextInt(100);
        for (int i = 0; i < added; i++) {
            strayCall();
            twin.aad(random.nextInt(256));
        }
        int data = random.nextInt(300);
        for (int i = 0; i < data && twin.calls() < CALLS - 60; i++) {
            strayCall();
            twin.data(random.nextInt(256));
        }
        twin.finish();
        guessTag();
        while (twin.calls() < CALLS) {
            anyCall(8 + random.nextInt(6));
        }
    }

    private void strayCall() {
        if (random.nextInt(20) == 0) {
            anyCall(new int[] {0, 1, 2, 6, 7, 8, 9, 10, 11, 12}[random.nextInt(10)]);
        }
    }

    private void guessTag() {
        int spoilt = random.nextInt(2) == 0 ? random.nextInt(16) : -1;
        for (int i = 0; i < 16; i++) {
            twin.expectTag(i, twin.model.dueTag(i) ^ (i == spoilt ? 1 << random.nextInt(8) : 0));
        }
        twin.verify();
    }

    private void anyCall(int kind) {
        switch (kind) {
            case 0 -> twin.setKeyWord(number(8), random.nextInt());
            case 1 -> twin.setNonceWord(number(3), random.nextInt());
            case 2 -> twin.begin(number(2));
            case 3 -> twin.aad(number(256));
            case 4 -> twin.data(number(256));
            case 5 -> twin.finish();
            case 6 -> twin.expectTag(number(16), number(256));
            case 7 -> twin.verify();
            case 8 -> twin.tag(number(16));
            case 9 -> twin.out(number(Math.max(1, twin.model.length() + 1)));
            case 10 -> twin.length();
            case 11 -> twin.added();
            case 12 -> twin.phase();
            default -> twin.reset();
        }
    }

    /** Most often a number from 0 on below the bound, now and then one that may be wrong. */
    private int number(int bound) {
        if (random.nextInt(16) > 0) {
            return random.nextInt(bound);
        }
        return random.nextBoolean() ? bound : ODD_NUMBERS[random.nextInt(ODD_NUMBERS.length)];
    }
}
