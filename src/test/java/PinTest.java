/** Promise 16: pin. */
public final class PinTest {
    private static final Due due = new Due("pin");
    private static final String ACCOUNT = "4987654321098765";
    private static final long FILL = 0xfedcbaabcdeffdbaL;

    public static void main(String[] args) {
        writtenOut();
        everyForm();
        terminals();
        otherLongsStay();
        wrongForms();
        wrongAccounts();
        wrongDigits();
        wrongFills();
        wrongKeys();
        due.end();
    }

    private static long opened(PinModule x, int slot) {
        return Jce.opened(Made.keyLeft(slot), Made.RIGHT, x.peek(0));
    }

    /** Blocks written out by hand, so that they lean on no other code. */
    private static void writtenOut() {
        PinModule x = Made.withKeys();
        long account = 0x4987654321098765L;
        x.pin(0, 4, account, 0x1234, 0);
        due.is("format 0", opened(x, 0), 0x041234ffffffffffL ^ 0x0000765432109876L);
        x.pin(0, 16 + 4, account, 0x1234, 0x0123456789abcdefL);
        due.is("format 1", opened(x, 0), 0x1412346789abcdefL);
        x.pin(0, 48 + 12, account, 0x123456789012L, 0xcd);
        due.is("format 3", opened(x, 0), 0x3c123456789012cdL ^ 0x0000765432109876L);
    }

    private static void everyForm() {
        PinModule x = Made.withKeys();
        for (int format : new int[] {0, 1, 3}) {
            for (int length = 4; length <= 12; length++) {
                for (int first : new int[] {0, 9}) {
                    String pin = (first + "90817263549").substring(0, length);
                    String call = "pin of format " + format + ", " + pin;
                    int slot = 4 * (length % 2);
                    due.is(call, x.pin(slot, 16 * format + length, Hex.number(ACCOUNT), Hex.number(pin), FILL), 0);
                    due.is(call + ", the block", opened(x, slot), Hex.pinBlock(format, ACCOUNT, pin, Hex.of(FILL)));
                }
            }
        }
    }

    /** A terminal's key is the current one with 255 added to byte 7 of each half. */
    private static void terminals() {
        PinModule x = Made.sealedModule();
        Made.load(x, 1, 2, true, Made.LEFT, Made.RIGHT);
        x.terminal(2, 1, 0x9876543210e00000L >>> 21);
        due.is("pin(18) with the first key", x.pin(18, 6, 0, 0x123456, 0), 0);
        long change = 0xff;
        due.is("its block", x.peek(0), Jce.sealed(0x6ac292faa1315b4dL ^ change, 0x858ab3a3d7d5933aL ^ change,
                0x06123456ffffffffL));
        x.next(2);
        due.is("pin(18) with the first counter's key", x.pin(18, 6, 0, 0x123456, 0), 0);
        due.is("its block", x.peek(0), Jce.sealed(0x042666b49184cfa3L ^ change, 0x68de9628d0397bc9L ^ change,
                0x06123456ffffffffL));
    }

    private static void otherLongsStay() {
        PinModule x = Made.withKeys();
        for (int k = 0; k < 5; k++) {
            x.poke(k, 100 + k);
        }
        due.is("a refused pin", x.pin(0, 4, 0, 0x12345, 0), -2);
        due.is("it leaves long 0", x.peek(0), 100);
        x.pin(0, 4, 0, 0x1234, 0);
        for (int k = 1; k < 5; k++) {
            due.is("long " + k + " stays", x.peek(k), 100 + k);
        }
    }

    private static void wrongForms() {
        PinModule x = Made.withKeys();
        int[] formats = {-1, 2, 4, 5, 15, 16, 256, 1 << 27, -(1 << 27)};
        for (int format : formats) {
            due.is("format " + format, x.pin(0, 16 * format + 4, 0, 0x1234, -1), -2);
        }
        for (int format : new int[] {0, 1, 3}) {
            for (int length : new int[] {0, 1, 2, 3, 13, 14, 15}) {
                due.is("length " + length + " of " + format, x.pin(0, 16 * format + length, 0, 0, -1), -2);
            }
        }
        due.is("form -12", x.pin(0, -12, 0, 0x1234, 0), -2);
        due.is("form, least of all", x.pin(0, Integer.MIN_VALUE + 4, 0, 0x1234, 0), -2);
    }

    private static void wrongAccounts() {
        PinModule x = Made.withKeys();
        for (int format : new int[] {0, 1, 3}) {
            int form = 16 * format + 4;
            for (int shift = 0; shift < 64; shift += 4) {
                due.is("account with a 10 at " + shift, x.pin(0, form, 10L << shift, 0x1234, -1), -2);
                due.is("account with a 15 at " + shift, x.pin(0, form, 15L << shift, 0x1234, -1), -2);
                due.is("account with a 9 at " + shift, x.pin(0, form, 9L << shift, 0x1234, -1), 0);
            }
            due.is("account of nines", x.pin(0, form, 0x9999999999999999L, 0x1234, -1), 0);
        }
    }

    private static void wrongDigits() {
        PinModule x = Made.withKeys();
        for (int length = 4; length <= 12; length++) {
            for (int i = 0; i < 16; i++) {
                due.is("length " + length + ", a 10 at " + i, x.pin(0, length, 0, 10L << 4 * i, 0), -2);
                due.is("length " + length + ", a 9 at " + i, x.pin(0, length, 0, 9L << 4 * i, 0), i < length ? 0 : -2);
            }
        }
        due.is("digits -1", x.pin(0, 12, 0, -1, 0), -2);
        due.is("a PIN of zeros", x.pin(0, 12, 0, 0, 0), 0);
    }

    private static void wrongFills() {
        PinModule x = Made.withKeys();
        for (int length = 4; length <= 12; length++) {
            for (int i = 0; i < 16; i++) {
                long fill = -1L ^ 6L << 4 * i;
                int want = i < 14 - length ? -2 : 0;
                due.is("length " + length + ", a 9 in fill at " + i, x.pin(0, 48 + length, 0, 0, fill), want);
                due.is("length " + length + ", a 10 in fill at " + i, x.pin(0, 48 + length, 0, 0, -1L ^ 5L << 4 * i), 0);
            }
            due.is("any fill for 0", x.pin(0, length, 0, 0, 0), 0);
            due.is("any fill for 1", x.pin(0, 16 + length, 0, 0, 0), 0);
            due.is("no fill of zeros for 3", x.pin(0, 48 + length, 0, 0, 0), -2);
        }
    }

    private static void wrongKeys() {
        PinModule x = Made.withKeys();
        for (int k : new int[] {-1, 24, Integer.MIN_VALUE, Integer.MAX_VALUE}) {
            due.is("pin(" + k + ")", x.pin(k, 4, 0, 0x1234, 0), -2);
        }
        for (int k = 8; k < 24; k++) {
            due.is("pin(" + k + "), empty", x.pin(k, 4, 0, 0x1234, 0), -3);
            due.is("pin(" + k + "), -2 comes before -3", x.pin(k, 4, 0, 0x12345, 0), -2);
        }
        for (int k = 0; k < 8; k++) {
            due.is("pin(" + k + ") of usage " + k % 4, x.pin(k, 4, 0, 0x1234, 0), k % 4 == 0 ? 0 : -4);
            due.is("pin(" + k + "), -2 comes before -4", x.pin(k, 4, -1, 0x1234, 0), -2);
        }
    }
}
