import java.nio.charset.StandardCharsets;
import java.util.Arrays;

/** Promise 19: code; and CODES OF MESSAGES of the Terms. Slots 1 and 5 of Made.withKeys() are MAC slots. */
public final class CodeTest {
    private static final Due due = new Due("code");

    public static void main(String[] args) {
        due.sentence("Promise 19: The code of the message's first n bytes, to the buffer (long 0): 0", CodeTest::everyLength);
        due.sentence("Promise 19: n bytes (0 .. 64)", CodeTest::lengths);
        due.sentence("Promise 19: the message's first n bytes", CodeTest::firstBytes);
        due.sentence("Promise 19: by a MAC slot", CodeTest::slots);
        due.sentence("Terms: a byte 128 (in any case, so a block more for a multiple of 8)", CodeTest::multiplesOfEight);
        due.sentence("Terms: then zeros up to a multiple of 8", CodeTest::zeros);
        due.sentence("Terms: (ISO 9797-1, algorithm 3, padding 2)", CodeTest::standardCodes);
        due.end();
    }

    private static void tell(PinModule x, byte[] bytes) {
        byte[] all = Arrays.copyOf(bytes, 64);
        for (int k = 0; k < 8; k++) {
            x.message(k, Jce.longAt(all, k));
        }
    }

    private static byte[] someMessage() {
        byte[] message = new byte[64];
        for (int i = 0; i < 64; i++) {
            message[i] = (byte) (255 - 3 * i);
        }
        return message;
    }

    private static long code(PinModule x, int n) {
        x.code(1, n);
        return x.peek(0);
    }

    /** The code of longs that are padded already. */
    private static long chained(long left, long right, long... longs) {
        long chained = 0;
        for (long value : longs) {
            chained = Jce.des(left, chained ^ value);
        }
        return Jce.des(left, Jce.undes(right, chained));
    }

    private static long expected(int slot, byte[] message, int n) {
        byte[] padded = Arrays.copyOf(Arrays.copyOf(message, n), n / 8 * 8 + 8);
        padded[n] = (byte) 128;
        long[] longs = new long[padded.length / 8];
        for (int k = 0; k < longs.length; k++) {
            longs[k] = Jce.longAt(padded, k);
        }
        return chained(Made.keyLeft(slot), Made.RIGHT, longs);
    }

    private static void everyLength() {
        PinModule x = Made.withKeys();
        tell(x, someMessage());
        for (int n = 0; n <= 64; n++) {
            int slot = n % 2 == 0 ? 1 : 5;
            due.is("code of " + n + " bytes", x.code(slot, n), 0);
            due.is("it", x.peek(0), expected(slot, someMessage(), n));
        }
    }

    private static void lengths() {
        PinModule x = Made.withKeys();
        x.poke(0, 7);
        for (int n : new int[] {-1, 65, 66, 72, Integer.MIN_VALUE, Integer.MAX_VALUE}) {
            due.is("code of " + n + " bytes", x.code(1, n), -2);
            due.is("long 0 stays", x.peek(0), 7);
        }
        for (int n : new int[] {0, 1, 63, 64}) {
            due.is("code of " + n + " bytes", x.code(1, n), 0);
        }
    }

    /** The last of the n bytes is looked at, the one behind it is not. */
    private static void firstBytes() {
        for (int n = 1; n < 64; n++) {
            PinModule x = Made.withKeys();
            byte[] message = someMessage();
            tell(x, message);
            long code = code(x, n);
            message[n] ^= 1;
            tell(x, message);
            due.is("code of " + n + " bytes, the one behind changed", code(x, n), code);
            message[n - 1] ^= 1;
            tell(x, message);
            due.holds("code of " + n + " bytes, the last changed", code(x, n) != code);
        }
    }

    private static void slots() {
        PinModule x = Made.withKeys();
        Made.load(x, 15, 1, false, 3, 4);
        for (int slot : new int[] {-1, 16, 17, Integer.MIN_VALUE, Integer.MAX_VALUE}) {
            due.is("code by slot " + slot, x.code(slot, 8), -2);
        }
        for (int slot = 0; slot < 8; slot++) {
            due.is("code by usage " + slot % 4, x.code(slot, 8), slot % 4 == 1 ? 0 : -4);
        }
        for (int slot = 8; slot < 16; slot++) {
            due.is("code by slot " + slot, x.code(slot, 8), slot == 15 ? 0 : -3);
        }
        due.is("the code by slot 15", x.peek(0), chained(3, 4, 0, 128L << 56));
    }

    /** Of none, of 8 and of 64 bytes; the block more is 128 and zeros. */
    private static void multiplesOfEight() {
        PinModule x = Made.withKeys();
        long left = Made.keyLeft(1);
        long padding = 0x8000000000000000L;
        due.is("code of nothing", code(x, 0), chained(left, Made.RIGHT, padding));
        long[] longs = new long[9];
        for (int k = 0; k < 8; k++) {
            longs[k] = Made.LEFT * (k + 1);
            x.message(k, longs[k]);
            longs[k + 1] = padding;
            long want = chained(left, Made.RIGHT, Arrays.copyOf(longs, k + 2));
            due.is("code of " + (8 * k + 8) + " bytes", code(x, 8 * k + 8), want);
        }
    }

    /** At both sides of a multiple of 8: 128 is the last byte of a block, the first, the second. */
    private static void zeros() {
        PinModule x = Made.withKeys();
        long left = Made.keyLeft(1);
        long right = Made.RIGHT;
        for (int k = 0; k < 8; k++) {
            x.message(k, -1);
        }
        due.is("code of 1 byte", code(x, 1), chained(left, right, 0xff80000000000000L));
        due.is("code of 7 bytes", code(x, 7), chained(left, right, 0xffffffffffffff80L));
        due.is("code of 8 bytes", code(x, 8), chained(left, right, -1, 0x8000000000000000L));
        due.is("code of 9 bytes", code(x, 9), chained(left, right, -1, 0xff80000000000000L));
        due.is("code of 63 bytes", code(x, 63), chained(left, right, -1, -1, -1, -1, -1, -1, -1, 0xffffffffffffff80L));
        due.is("code of 64 bytes", code(x, 64), chained(left, right, -1, -1, -1, -1, -1, -1, -1, -1, 0x8000000000000000L));
    }

    /** The examples of ISO 9797-1. */
    private static void standardCodes() {
        PinModule x = Made.sealedModule();
        Made.load(x, 0, 1, false, Made.LEFT, Made.RIGHT);
        tell(x, "Now is the time for all ".getBytes(StandardCharsets.US_ASCII));
        due.is("code of 24 bytes", x.code(0, 24), 0);
        due.is("it", x.peek(0), 0xe9086230ca3be796L);
        tell(x, "Now is the time for it".getBytes(StandardCharsets.US_ASCII));
        due.is("code of 22 bytes", x.code(0, 22), 0);
        due.is("it", x.peek(0), 0x5a692ce64f404145L);
    }
}
