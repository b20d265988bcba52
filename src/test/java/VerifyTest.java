/** Promise 18: verify. Slots of Made.withKeys(): 0 and 4 PIN, 3 and 7 OFFSET. */
public final class VerifyTest {
    private static final Due due = new Due("verify");
    private static final int[] FORMATS = {0, 1, 3};

    public static void main(String[] args) {
        rightPins();
        wrongPins();
        longerPins();
        byTerminal();
        wrongBlocks();
        wrongNumbers();
        wrongKeys();
        due.end();
    }

    private static int[] natural(int slot, long account) {
        String front = Hex.of(Jce.sealed(Made.keyLeft(slot), Made.RIGHT, account)).substring(0, 4);
        int[] digits = new int[4];
        for (int i = 0; i < 4; i++) {
            int four = Character.digit(front.charAt(i), 16);
            digits[i] = four < 10 ? four : four - 10;
        }
        return digits;
    }

    private static long rightPin(int slot, long account, String offset) {
        int[] natural = natural(slot, account);
        StringBuilder pin = new StringBuilder();
        for (int i = 0; i < 4; i++) {
            pin.append((natural[i] + Character.digit(offset.charAt(i), 10)) % 10);
        }
        return Hex.number(pin.toString());
    }

    private static void rightPins() {
        PinModule x = Made.withKeys();
        String[] offsets = {"0000", "1234", "9999", "0907", "5050"};
        for (int format : FORMATS) {
            for (int i = 0; i < 20; i++) {
                long account = Hex.number(("" + 1234567890123456L * (i + 1)).substring(0, 16));
                int slot = i % 2 == 0 ? 3 : 7;
                String offset = offsets[i % 5];
                x.pin(4, 16 * format + 4, account, rightPin(slot, account, offset), -1);
                long block = x.peek(0);
                due.is("the right PIN, " + i + " of format " + format,
                        x.verify(4, 16 * slot + format, account, (int) Hex.number(offset)), 0);
                due.is("the buffer stays", x.peek(0), block);
            }
        }
    }

    private static void wrongPins() {
        PinModule x = Made.withKeys();
        long account = 0x4111222233334444L;
        long pin = rightPin(3, account, "1111");
        x.pin(0, 4, account, pin, 0);
        due.is("offset 1111", x.verify(0, 48, account, 0x1111), 0);
        for (int shift = 0; shift < 16; shift += 4) {
            for (int other = 0; other < 10; other++) {
                int offset = 0x1111 & ~(15 << shift) | other << shift;
                due.is("offset " + Integer.toHexString(offset), x.verify(0, 48, account, offset), other == 1 ? 0 : -6);
            }
        }
        due.is("another slot's key", x.verify(0, 7 * 16, account, 0x1111), -6);
    }

    /** Five digits whose first four are right, and five whose last four are. */
    private static void longerPins() {
        PinModule x = Made.withKeys();
        long account = 0x4111222233334444L;
        long pin = rightPin(3, account, "0000");
        for (int format : FORMATS) {
            x.pin(0, 16 * format + 5, account, pin << 4, -1);
            due.is("one digit behind", x.verify(0, 48 + format, account, 0), -6);
            x.pin(0, 16 * format + 5, account, pin, -1);
            due.is("one digit in front", x.verify(0, 48 + format, account, 0), -6);
        }
    }

    private static void byTerminal() {
        PinModule x = Made.withKeys();
        x.terminal(4, 2, 123);
        x.skip(4, 12345);
        long account = 0x12;
        x.pin(20, 52, account, rightPin(7, account, "4321"), -1);
        due.is("a terminal's PIN", x.verify(20, 7 * 16 + 3, account, 0x4321), 0);
        x.next(4);
        due.is("with its next key", x.verify(20, 7 * 16 + 3, account, 0x4321), -6);
    }

    private static void wrongBlocks() {
        PinModule x = Made.withKeys();
        long account = 0x9876543210987654L;
        long pin = rightPin(3, account, "0000");
        for (int made : FORMATS) {
            x.pin(0, 16 * made + 4, account, pin, -1);
            for (int format : FORMATS) {
                due.is("a block of " + made + " as " + format, x.verify(0, 48 + format, account, 0), made == format ? 0 : -6);
            }
        }
        x.pin(0, 4, account, pin, 0);
        due.is("under another key", x.verify(4, 48, account, 0), -6);
        x.poke(0, 0);
        due.is("a block of nothing", x.verify(0, 48, account, 0), -6);
    }

    private static void wrongNumbers() {
        PinModule x = Made.withKeys();
        for (int k : new int[] {-1, 24, Integer.MIN_VALUE, Integer.MAX_VALUE}) {
            due.is("verify(" + k + ")", x.verify(k, 48, 0, 0), -2);
        }
        for (int format = 0; format < 16; format++) {
            boolean is = format == 0 || format == 1 || format == 3;
            due.is("format " + format, x.verify(0, 48 + format, 0, 0), is ? -6 : -2);
        }
        for (int how : new int[] {-1, -16, 256, 256 + 48, Integer.MIN_VALUE, Integer.MAX_VALUE - 15}) {
            due.is("how " + how, x.verify(0, how, 0, 0), -2);
        }
        for (int format : FORMATS) {
            due.is("account of a 10", x.verify(0, 48 + format, 10L << 60, 0), -2);
            due.is("account of a 15", x.verify(0, 48 + format, 15, 0), -2);
        }
        for (int offset : new int[] {-1, 65536, 0x11234, Integer.MIN_VALUE, Integer.MAX_VALUE}) {
            due.is("offset " + offset, x.verify(0, 48, 0, offset), -2);
        }
        for (int offset : new int[] {0xa, 0xa0, 0xb00, 0xf000, 0xffff}) {
            due.is("no digits: offset " + offset, x.verify(0, 48, 0, offset), -2);
        }
        due.is("offset 9999", x.verify(0, 48, 0, 0x9999), -6);
    }

    private static void wrongKeys() {
        PinModule x = Made.withKeys();
        for (int k = 8; k < 24; k++) {
            due.is("key " + k + ", empty", x.verify(k, 48, 0, 0), -3);
            due.is("key " + k + ", -3 comes before -4", x.verify(k, 0, 0, 0), -3);
        }
        for (int slot = 8; slot < 16; slot++) {
            due.is("slot " + slot + ", empty", x.verify(0, 16 * slot, 0, 0), -3);
            due.is("slot " + slot + ", -3 comes before -4", x.verify(1, 16 * slot, 0, 0), -3);
            due.is("slot " + slot + ", -2 comes before -3", x.verify(1, 16 * slot, 0, -1), -2);
        }
        for (int slot = 0; slot < 8; slot++) {
            due.is("slot " + slot, x.verify(0, 16 * slot, 0, 0), slot % 4 == 3 ? -6 : -4);
            due.is("key " + slot, x.verify(slot, 48, 0, 0), slot % 4 == 0 ? -6 : -4);
        }
    }
}
