import java.security.GeneralSecurityException;
import java.util.Arrays;
import javax.crypto.Cipher;
import javax.crypto.spec.ChaCha20ParameterSpec;
import javax.crypto.spec.IvParameterSpec;
import javax.crypto.spec.SecretKeySpec;

/** ChaCha20-Poly1305 by the JDK: what the box must agree with. */
final class Oracle {
    static final int TAG_BYTES = 16;

    private Oracle() {
    }

    /** The row xor the stream from block 1 on: seals what is open, opens what is sealed. */
    static byte[] xorStream(int[] key, int[] nonce, byte[] row) {
        return xorFrom(1, key, nonce, row);
    }

    /** Block 0 of the stream, which the tag is made with. */
    static byte[] blockZero(int[] key, int[] nonce) {
        return xorFrom(0, key, nonce, new byte[64]);
    }

    private static byte[] xorFrom(int block, int[] key, int[] nonce, byte[] row) {
        try {
            Cipher cipher = Cipher.getInstance("ChaCha20");
            ChaCha20ParameterSpec place = new ChaCha20ParameterSpec(bytesOf(nonce), block);
            cipher.init(Cipher.ENCRYPT_MODE, new SecretKeySpec(bytesOf(key), "ChaCha20"), place);
            return cipher.doFinal(row);
        } catch (GeneralSecurityException e) {
            throw new IllegalStateException(e);
        }
    }

    static byte[] tagOf(int[] key, int[] nonce, byte[] added, byte[] plain) {
        try {
            Cipher cipher = Cipher.getInstance("ChaCha20-Poly1305");
            IvParameterSpec place = new IvParameterSpec(bytesOf(nonce));
            cipher.init(Cipher.ENCRYPT_MODE, new SecretKeySpec(bytesOf(key), "ChaCha20"), place);
            cipher.updateAAD(added);
            byte[] sealed = cipher.doFinal(plain);
            return Arrays.copyOfRange(sealed, plain.length, plain.length + TAG_BYTES);
        } catch (GeneralSecurityException e) {
            throw new IllegalStateException(e);
        }
    }

    private static byte[] bytesOf(int[] words) {
        byte[] bytes = new byte[4 * words.length];
        for (int i = 0; i < bytes.length; i++) {
            bytes[i] = (byte) (words[i / 4] >>> (8 * (i % 4)));
        }
        return bytes;
    }
}
