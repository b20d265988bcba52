import java.nio.ByteBuffer;
import javax.crypto.Cipher;
import javax.crypto.spec.SecretKeySpec;

/** The Java library's DES, to hold the class's own against. */
final class Jce {
    private Jce() {
    }

    static long des(long key, long block) {
        return run(Cipher.ENCRYPT_MODE, key, block);
    }

    static long undes(long key, long block) {
        return run(Cipher.DECRYPT_MODE, key, block);
    }

    static long sealed(long left, long right, long block) {
        return des(left, undes(right, des(left, block)));
    }

    static long opened(long left, long right, long block) {
        return undes(left, des(right, undes(left, block)));
    }

    static int checkValue(long left, long right) {
        return (int) (sealed(left, right, 0) >>> 40);
    }

    static byte[] bytes(long... longs) {
        ByteBuffer buffer = ByteBuffer.allocate(8 * longs.length);
        for (long value : longs) {
            buffer.putLong(value);
        }
        return buffer.array();
    }

    static long longAt(byte[] bytes, int k) {
        return ByteBuffer.wrap(bytes).getLong(8 * k);
    }

    private static long run(int mode, long key, long block) {
        try {
            Cipher cipher = Cipher.getInstance("DES/ECB/NoPadding");
            cipher.init(mode, new SecretKeySpec(bytes(key), "DES"));
            return longAt(cipher.doFinal(bytes(block)), 0);
        } catch (java.security.GeneralSecurityException e) {
            throw new IllegalStateException(e);
        }
    }
}
