import java.nio.charset.StandardCharsets;
import java.util.HexFormat;

/** The example of RFC 8439, section 2.8.2, sealed and opened again. */
public final class RfcVectorTest {
    private static final String PLAIN = "Ladies and Gentlemen of the class of '99: "
        + "If I could offer you only one tip for the future, sunscreen would be it.";
    private static final String ADDED = "50515253c0c1c2c3c4c5c6c7";
    private static final String SEALED = "d31a8d34648e60db7b86afbc53ef7ec2a4aded51296e08fea9e2b5a736ee62d6"
        + "3dbea45e8ca9671282fafb69da92728b1a71de0a9e060b2905d6a5b67ecd3b36"
        + "92ddbd7f2d778b8c9803aee328091b58fab324e4fad675945585808b4831d7bc"
        + "3ff4def08e4b7a9de576d26586cec64b6116";
    private static final String TAG = "1ae10b594f09e26a7e902ecbd0600691";

    private final Check check = new Check();
    private final byte[] plain = PLAIN.getBytes(StandardCharsets.US_ASCII);
    private final byte[] sealed = HexFormat.of().parseHex(SEALED);
    private final byte[] tag = HexFormat.of().parseHex(TAG);

    public static void main(String[] args) {
        RfcVectorTest test = new RfcVectorTest();
        test.seal();
        test.open();
        test.check.end();
    }

    private void seal() {
        AeadBox box = begun(Boxes.TO_SEAL);
        for (int i = 0; i < plain.length; i++) {
            check.due("data() " + i, box.data(plain[i]), sealed[i] & 255);
        }
        check.due("finish()", box.finish(), true);
        for (int i = 0; i < tag.length; i++) {
            check.due("tag(" + i + ")", box.tag(i), tag[i] & 255);
        }
        dueResults(box, sealed);
    }

    private void open() {
        AeadBox box = begun(Boxes.TO_OPEN);
        for (int i = 0; i < sealed.length; i++) {
            check.due("data() " + i, box.data(sealed[i] & 255), 0);
        }
        check.due("finish()", box.finish(), true);
        Boxes.expectTagOf(box, tag);
        check.due("verify()", box.verify(), true);
        dueResults(box, plain);
    }

    private static AeadBox begun(int dir) {
        AeadBox box = new AeadBox(114);
        for (int i = 0; i < 8; i++) {
            box.setKeyWord(i, 0x83828180 + i * 0x04040404);
        }
        box.setNonceWord(0, 0x00000007);
        box.setNonceWord(1, 0x43424140);
        box.setNonceWord(2, 0x47464544);
        box.begin(dir);
        for (byte b : HexFormat.of().parseHex(ADDED)) {
            box.aad(b & 255);
        }
        return box;
    }

    private void dueResults(AeadBox box, byte[] row) {
        for (int i = 0; i < row.length; i++) {
            check.due("out(" + i + ")", box.out(i), row[i] & 255);
        }
        check.due("out() behind the last", box.out(row.length), -1);
    }
}
