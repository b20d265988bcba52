/** Odd parity, made byte by byte. */
final class Parity {
    private Parity() {
    }

    static long odd(long half) {
        byte[] bytes = Jce.bytes(half);
        for (int i = 0; i < 8; i++) {
            int upper = bytes[i] & 0xfe;
            bytes[i] = (byte) (upper | 1 - Integer.bitCount(upper) % 2);
        }
        return Jce.longAt(bytes, 0);
    }
}
