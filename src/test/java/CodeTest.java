import java.nio.charset.StandardCharsets;
import java.util.Arrays;

/** Promise 19: code. */
public final class CodeTest {
    private static final Due due = new Due("code");

    public static void main(String[] args) {
        standardCodes();
        everyLength();
        refusals();
        due.end();
    }

    private static void tell(PinModule x, byte[] bytes) {
        byte[] all = Arrays.copyOf(bytes, 64);
        for (int k = 0; k < 8; k++) {
            x.message(k, Jce.longAt(all, k));
        }
    }

    /** The examples of ISO 9797-1 for algorithm 3 with padding 2. */
    private static void standardCodes() {
        PinModule x = Made.sealedModule();
        Made.load(x, 0, 1, false, Made.LEFT, Made.RIGHT);
        tell(x, "Now is the time for all ".getBytes(StandardCharsets.US_ASCII));
        due.is("code of 24 bytes", x.code(0, 24), 0);
        due.is("it", x.peek(0), 0xe9086230ca3be796L);
        tell(x, "Now is the time for it".getBytes(StandardCharsets.US_ASCII));
        due.is("code of 22 bytes", x.code(0, 22), 0);
        due.is("it", x.peek(0), 0x5a692ce64f404145L);
    }

    private static long expected(long left, long right, byte[] message, int n) {
        byte[] padded = Arrays.copyOf(Arrays.copyOf(message, n), n / 8 * 8 + 8);
        padded[n] = (byte) 128;
        long chained = 0;
        for (int k = 0; k < padded.length / 8; k++) {
            chained = Jce.des(left, chained ^ Jce.longAt(padded, k));
        }
        return Jce.des(left, Jce.undes(right, chained));
    }

    private static void everyLength() {
        PinModule x = Made.withKeys();
        byte[] message = new byte[64];
        for (int i = 0; i < 64; i++) {
            message[i] = (byte) (255 - 3 * i);
        }
        tell(x, message);
        for (int k = 1; k < 5; k++) {
            x.poke(k, 200 + k);
        }
        for (int n = 0; n <= 64; n++) {
            int slot = n % 2 == 0 ? 1 : 5;
            due.is("code of " + n + " bytes", x.code(slot, n), 0);
            due.is("it", x.peek(0), expected(Made.keyLeft(slot), Made.RIGHT, message, n));
        }
        for (int k = 1; k < 5; k++) {
            due.is("long " + k + " stays", x.peek(k), 200 + k);
        }
        PinModule untold = Made.withKeys();
        untold.code(1, 64);
        due.is("a message that was not told is 0", untold.peek(0),
                expected(Made.keyLeft(1), Made.RIGHT, new byte[64], 64));
    }

    private static void refusals() {
        PinModule x = Made.withKeys();
        x.poke(0, 7);
        for (int n : new int[] {-1, 65, Integer.MIN_VALUE, Integer.MAX_VALUE}) {
            due.is("code of " + n + " bytes", x.code(1, n), -2);
            due.is("code of " + n + " bytes, -2 comes before -3", x.code(9, n), -2);
            due.is("code of " + n + " bytes, -2 comes before -4", x.code(0, n), -2);
        }
        for (int slot : new int[] {-1, 16, 17, Integer.MIN_VALUE, Integer.MAX_VALUE}) {
            due.is("slot " + slot, x.code(slot, 8), -2);
        }
        due.is("an empty slot", x.code(8, 8), -3);
        for (int slot : new int[] {0, 2, 3}) {
            due.is("another usage", x.code(slot, 8), -4);
        }
        due.is("a refused one changes nothing", x.peek(0), 7);
    }
}
