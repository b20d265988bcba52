/** Promise 17: translate. */
public final class TranslateTest {
    private static final Due due = new Due("translate");
    private static final int[] FORMATS = {0, 1, 3};
    private static final String ACCOUNT = "1234567890123456";
    private static final long FILL = 0x0123abcdeffedcbaL;

    public static void main(String[] args) {
        everyForm();
        otherAccount();
        byTerminals();
        wrongBlocks();
        wrongNumbers();
        wrongFills();
        wrongKeys();
        due.end();
    }

    /** Slot 0 or 4 has the block of this long in the buffer. */
    private static void put(PinModule x, int slot, long plain) {
        x.poke(0, Jce.sealed(Made.keyLeft(slot), Made.RIGHT, plain));
    }

    private static void everyForm() {
        PinModule x = Made.withKeys();
        x.poke(1, 101);
        x.poke(4, 104);
        for (int from : FORMATS) {
            for (int to : FORMATS) {
                for (int length = 4; length <= 12; length++) {
                    String pin = "905172836401".substring(12 - length);
                    int key = 4 * (length % 2);
                    put(x, 4, Hex.pinBlock(from, ACCOUNT, pin, "cafebabedeafdeed"));
                    String call = "translate of " + pin + " from " + from + " to " + to;
                    due.is(call, x.translate(4, key, 16 * from + to, Hex.number(ACCOUNT), FILL), length);
                    due.is(call + ", the block", Jce.opened(Made.keyLeft(key), Made.RIGHT, x.peek(0)),
                            Hex.pinBlock(to, ACCOUNT, pin, Hex.of(FILL)));
                }
            }
        }
        due.is("long 1 stays", x.peek(1), 101);
        due.is("long 4 stays", x.peek(4), 104);
    }

    /** With another account format 0 is seldom of the form, and never with these. */
    private static void otherAccount() {
        PinModule x = Made.withKeys();
        long account = Hex.number(ACCOUNT);
        x.pin(0, 4, account, 0x5555, 0);
        long block = x.peek(0);
        due.is("another account", x.translate(0, 0, 0, account ^ 0x10, 0), -6);
        due.is("a refused one changes nothing", x.peek(0), block);
        due.is("another last digit is not looked at", x.translate(0, 0, 0, account ^ 1, 0), 4);
        due.is("nor are the first three", x.translate(0, 0, 0, account ^ 0x1110000000000000L, 0), 4);
        x.pin(0, 20, account, 0x5555, 0);
        due.is("nor is any for format 1", x.translate(0, 0, 17, 0, 0), 4);
    }

    private static void byTerminals() {
        PinModule x = Made.withKeys();
        x.terminal(0, 2, 99);
        x.terminal(7, 6, 98);
        x.next(0);
        x.skip(7, 1000);
        x.pin(16, 5, 0, 0x98765, 0);
        due.is("from terminal to terminal", x.translate(16, 23, 1, 0, 7), 5);
        due.is("from terminal to slot", x.translate(23, 0, 16 + 3, 0, -1), 5);
        due.is("it is the PIN's block", Jce.opened(Made.keyLeft(0), Made.RIGHT, x.peek(0)), 0x3598765fffffffffL);
        due.is("from slot to terminal", x.translate(0, 16, 48, 0, 0), 5);
        due.is("from a terminal to itself", x.translate(16, 16, 0, 0, 0), 5);
        x.next(0);
        due.is("the next key is another", x.translate(16, 16, 0, 0, 0), -6);
    }

    private static void wrongBlocks() {
        long[] wrongOfAll = {0x2412345678901234L, 0x4412345678901234L, 0xf41234ffffffffffL};
        for (int format : FORMATS) {
            PinModule x = Made.withKeys();
            long front = (long) format << 60;
            for (long block : wrongOfAll) {
                is(x, format, block, -6);
            }
            for (int other : FORMATS) {
                if (other != format) {
                    is(x, format, (long) other << 60 | 0x041234ffffffffffL, -6);
                }
            }
            for (int length = 0; length < 16; length++) {
                long block = front | (long) length << 56 | 0xffffffffffffffL >>> 4 * Math.min(length, 14);
                is(x, format, block, length >= 4 && length <= 12 ? length : -6);
            }
            for (int i = 0; i < 4; i++) {
                is(x, format, front | 0x041234ffffffffffL | 15L << 52 - 4 * i, -6);
                is(x, format, (front | 0x040000ffffffffffL) + (10L << 52 - 4 * i), -6);
                is(x, format, (front | 0x040000ffffffffffL) + (9L << 52 - 4 * i), 4);
            }
            for (int i = 0; i < 10; i++) {
                long ones = front | 0x041234ffffffffffL;
                is(x, format, ones ^ 1L << 4 * i, format == 0 ? -6 : 4);
                is(x, format, ones ^ 5L << 4 * i, format == 0 ? -6 : 4);
                is(x, format, ones ^ 6L << 4 * i, format == 1 ? 4 : -6);
            }
        }
    }

    private static void is(PinModule x, int format, long block, int want) {
        put(x, 0, block);
        long before = x.peek(0);
        due.is("block " + Hex.of(block) + " as format " + format, x.translate(0, 4, 16 * format, 0, 0), want);
        due.holds("the buffer of " + Hex.of(block) + " stays just when it is refused", (x.peek(0) == before) == (want < 0));
    }

    private static void wrongNumbers() {
        PinModule x = Made.withKeys();
        for (int format = 0; format < 16; format++) {
            boolean is = format == 0 || format == 1 || format == 3;
            put(x, 0, 0x041234ffffffffffL);
            due.is("to format " + format, x.translate(0, 0, format, 0, -1), is ? 4 : -2);
            put(x, 0, (long) format << 60 | 0x041234ffffffffffL);
            due.is("from format " + format, x.translate(0, 0, 16 * format, 0, -1), is ? 4 : -2);
        }
        for (int forms : new int[] {-1, -16, 256, 1 << 28, Integer.MIN_VALUE, Integer.MAX_VALUE}) {
            due.is("forms " + forms, x.translate(0, 0, forms, 0, -1), -2);
        }
        for (int k : new int[] {-1, 24, Integer.MIN_VALUE, Integer.MAX_VALUE}) {
            due.is("from " + k, x.translate(k, 0, 0, 0, 0), -2);
            due.is("to " + k, x.translate(0, k, 0, 0, 0), -2);
        }
        for (int forms : new int[] {0, 1, 16, 17, 48}) {
            due.is("account of a 10, forms " + forms, x.translate(0, 0, forms, 10L << 60, -1), -2);
            due.is("account of a 15, forms " + forms, x.translate(0, 0, forms, 15, -1), -2);
        }
    }

    private static void wrongFills() {
        PinModule x = Made.withKeys();
        for (int i = 0; i < 16; i++) {
            put(x, 0, Hex.pinBlock(0, ACCOUNT, "123456789012", ""));
            long fill = -1L ^ 6L << 4 * i;
            due.is("a 9 in fill at " + i, x.translate(0, 0, 3, Hex.number(ACCOUNT), fill), i < 10 ? -2 : 12);
        }
        put(x, 0, 0x2041234L);
        due.is("-2 comes before -6", x.translate(0, 0, 3, 0, 0), -2);
        put(x, 0, 0x341234ffffffffffL);
        due.is("fill is not looked at from 3", x.translate(0, 0, 48, 0, 0), 4);
    }

    private static void wrongKeys() {
        PinModule x = Made.withKeys();
        x.terminal(0, 2, 5);
        for (int k = 8; k < 24; k++) {
            if (k != 16) {
                due.is("from " + k + ", empty", x.translate(k, 0, 0, 0, 0), -3);
                due.is("to " + k + ", empty", x.translate(0, k, 0, 0, 0), -3);
                due.is("to " + k + ", -3 comes before -4", x.translate(1, k, 0, 0, 0), -3);
                due.is("from " + k + ", -2 comes before -3", x.translate(k, 0, 2, 0, 0), -2);
            }
        }
        for (int k = 1; k < 4; k++) {
            due.is("from usage " + k, x.translate(k, 0, 0, 0, 0), -4);
            due.is("to usage " + k, x.translate(0, k, 0, 0, 0), -4);
            due.is("to usage " + k + " from a terminal", x.translate(16, k, 0, 0, 0), -4);
        }
        due.is("the block comes last", x.translate(16, 0, 0, 0, 0), -6);
    }
}
