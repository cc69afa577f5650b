import java.io.ByteArrayOutputStream;
import java.util.Arrays;

/** The document's promises once more, written for plainness over the JDK's own cipher. */
final class ModelBox {
    private final int cap;
    private final int[] key = new int[8];
    private final int[] nonce = new int[3];
    private ByteArrayOutputStream added = new ByteArrayOutputStream();
    private ByteArrayOutputStream came = new ByteArrayOutputStream();
    private byte[] stream = new byte[0];
    private byte[] tag = new byte[Oracle.TAG_BYTES];
    private byte[] expected = new byte[Oracle.TAG_BYTES];
    private boolean opening = false;
    private int phase = 0;

    ModelBox(int cap) {
        this.cap = cap < 0 ? 0 : cap > 400 ? 400 : cap;
    }

    boolean setKeyWord(int i, int w) {
        return setWord(key, i, w);
    }

    boolean setNonceWord(int i, int w) {
        return setWord(nonce, i, w);
    }

    private boolean setWord(int[] words, int i, int w) {
        boolean taken = phase == 0 && i >= 0 && i < words.length;
        if (taken) {
            words[i] = w;
        }
        return taken;
    }

    boolean begin(int dir) {
        if (phase != 0 || dir < 0 || dir > 1) {
            return false;
        }
        phase = 1;
        opening = dir == 1;
        added = new ByteArrayOutputStream();
        came = new ByteArrayOutputStream();
        expected = new byte[Oracle.TAG_BYTES];
        stream = Oracle.xorStream(key, nonce, new byte[400]);
        return true;
    }

    boolean aad(int b) {
        if (phase != 1 || b < 0 || b > 255 || added.size() == 1000) {
            return false;
        }
        added.write(b);
        return true;
    }

    int data(int b) {
        if (phase < 1 || phase > 2 || b < 0 || b > 255) {
            return -1;
        }
        if (came.size() == cap) {
            return -2;
        }
        phase = 2;
        int answer = opening ? 0 : b ^ (stream[came.size()] & 255);
        came.write(b);
        return answer;
    }

    boolean finish() {
        if (phase < 1 || phase > 2) {
            return false;
        }
        phase = 3;
        tag = Oracle.tagOf(key, nonce, added.toByteArray(), opening ? results() : came.toByteArray());
        return true;
    }

    boolean expectTag(int i, int b) {
        if (phase != 3 || !opening || i < 0 || i > 15 || b < 0 || b > 255) {
            return false;
        }
        expected[i] = (byte) b;
        return true;
    }

    boolean verify() {
        if (phase != 3 || !opening || !Arrays.equals(expected, tag)) {
            return false;
        }
        phase = 4;
        return true;
    }

    int tag(int i) {
        return phase == 3 && !opening && i >= 0 && i <= 15 ? dueTag(i) : -1;
    }

    int out(int i) {
        boolean told = phase == 4 || phase == 3 && !opening;
        return told && i >= 0 && i < came.size() ? results()[i] & 255 : -1;
    }

    int length() {
        return came.size();
    }

    int added() {
        return added.size();
    }

    int phase() {
        return phase;
    }

    void reset() {
        phase = 0;
    }

    /** A tag byte that the box would not tell, so that a run can guess it right. */
    int dueTag(int i) {
        return tag[i] & 255;
    }

    private byte[] results() {
        return Oracle.xorStream(key, nonce, came.toByteArray());
    }
}
