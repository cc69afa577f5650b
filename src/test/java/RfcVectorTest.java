import java.nio.charset.StandardCharsets;
import java.util.HexFormat;

/** The examples of RFC 8439, section 2.8.2 and appendix A.5, sealed and opened again. */
public final class RfcVectorTest extends Tests {
    private static final Example LADIES = new Example(
        "808182838485868788898a8b8c8d8e8f909192939495969798999a9b9c9d9e9f",
        "070000004041424344454647",
        "50515253c0c1c2c3c4c5c6c7",
        "Ladies and Gentlemen of the class of '99: "
            + "If I could offer you only one tip for the future, sunscreen would be it.",
        "d31a8d34648e60db7b86afbc53ef7ec2a4aded51296e08fea9e2b5a736ee62d6"
            + "3dbea45e8ca9671282fafb69da92728b1a71de0a9e060b2905d6a5b67ecd3b36"
            + "92ddbd7f2d778b8c9803aee328091b58fab324e4fad675945585808b4831d7bc"
            + "3ff4def08e4b7a9de576d26586cec64b6116",
        "1ae10b594f09e26a7e902ecbd0600691");

    private static final Example DRAFTS = new Example(
        "1c9240a5eb55d38af333888604f6b5f0473917c1402b80099dca5cbc207075c0",
        "000000000102030405060708",
        "f33388860000000000004e91",
        "Internet-Drafts are draft documents valid for a maximum of six months and may be updated, "
            + "replaced, or obsoleted by other documents at any time. It is inappropriate to use "
            + "Internet-Drafts as reference material or to cite them other than as "
            + "/\u201cwork in progress./\u201d",
        "64a0861575861af460f062c79be643bd5e805cfd345cf389f108670ac76c8cb2"
            + "4c6cfc18755d43eea09ee94e382d26b0bdb7b73c321b0100d4f03b7f355894cf"
            + "332f830e710b97ce98c8a84abd0b948114ad176e008d33bd60f982b1ff37c855"
            + "9797a06ef4f0ef61c186324e2b3506383606907b6a7c02b0f9f6157b53c867e4"
            + "b9166c767b804d46a59b5216cde7a4e99040c5a40433225ee282a1b0a06c523e"
            + "af4534d7f83fa1155b0047718cbc546a0d072b04b3564eea1b422273f548271a"
            + "0bb2316053fa76991955ebd63159434ecebb4e466dae5a1073a6727627097a10"
            + "49e617d91d361094fa68f0ff77987130305beaba2eda04df997b714d6c6f2c29"
            + "a6ad5cb4022b02709b",
        "eead9d67890cbb22392336fea1851f38");

    public static void main(String[] args) throws IllegalAccessException {
        new RfcVectorTest().runAll();
    }

    void sealLadies() {
        seal(LADIES);
    }

    void openLadies() {
        open(LADIES);
    }

    void sealDrafts() {
        seal(DRAFTS);
    }

    void openDrafts() {
        open(DRAFTS);
    }

    private void seal(Example example) {
        byte[] plain = example.plain.getBytes(StandardCharsets.UTF_8);
        byte[] sealed = HexFormat.of().parseHex(example.sealed);
        AeadBox box = begun(example, Boxes.TO_SEAL);
        for (int i = 0; i < plain.length; i++) {
            due("data() " + i, box.data(plain[i] & 255), sealed[i] & 255);
        }
        due("finish()", box.finish(), true);
        dueTag(box, HexFormat.of().parseHex(example.tag));
    }

    private void open(Example example) {
        byte[] plain = example.plain.getBytes(StandardCharsets.UTF_8);
        AeadBox box = begun(example, Boxes.TO_OPEN);
        Boxes.giveAll(box, HexFormat.of().parseHex(example.sealed));
        due("finish()", box.finish(), true);
        Boxes.expect(box, HexFormat.of().parseHex(example.tag));
        due("verify()", box.verify(), true);
        // With 265 bytes of data, no more than these looks are left of the 512 calls.
        for (int i = 0; i < plain.length; i += 2) {
            due("out(" + i + ")", box.out(i), plain[i] & 255);
        }
        due("out() behind the last", box.out(plain.length), -1);
    }

    private static AeadBox begun(Example example, int dir) {
        AeadBox box = new AeadBox(300);
        Boxes.setWords(box, wordsOf(example.key), wordsOf(example.nonce));
        box.begin(dir);
        Boxes.addAll(box, HexFormat.of().parseHex(example.added));
        return box;
    }

    private static int[] wordsOf(String hex) {
        byte[] bytes = HexFormat.of().parseHex(hex);
        int[] words = new int[bytes.length / 4];
        for (int i = 0; i < bytes.length; i++) {
            words[i / 4] |= (bytes[i] & 255) << (8 * (i % 4));
        }
        return words;
    }

    private record Example(String key, String nonce, String added, String plain, String sealed, String tag) {
    }
}
