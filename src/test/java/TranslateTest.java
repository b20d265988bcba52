/** Promise 17: translate; and IS OF A FORMAT of the Terms. Slots 0 and 4 of Made.withKeys() are PIN slots. */
public final class TranslateTest {
    private static final Due due = new Due("translate");
    private static final int[] FORMATS = {0, 1, 3};
    private static final String ACCOUNT = "1234567890123456";
    private static final long FILL = 0x0123abcdeffedcbaL;

    public static void main(String[] args) {
        due.sentence("Promise 17: becomes one under key to: the PIN's length", TranslateTest::everyForm);
        due.sentence("Promise 17: forms: 16 * the one it is of + the one that it becomes", TranslateTest::forms);
        due.sentence("Promise 17: under key from, under key to (PIN slots, terminals)", TranslateTest::keyNumbers);
        due.sentence("Promise 17: (as above, PIN slots, terminals; perhaps the same)", TranslateTest::sameKey);
        due.sentence("Promise 17: account must be one in any case", TranslateTest::accounts);
        due.sentence("Terms: of translate the lowest ten of fill; -2 otherwise", TranslateTest::fills);
        due.sentence("Terms: IS OF A FORMAT, when it begins with it", TranslateTest::begins);
        due.sentence("Terms: IS OF A FORMAT, when it has a length 4 .. 12", TranslateTest::lengths);
        due.sentence("Terms: IS OF A FORMAT, when it has digits 0 .. 9", TranslateTest::digits);
        due.sentence("Terms: IS OF A FORMAT, for 0 all 15s behind them", TranslateTest::fifteens);
        due.sentence("Terms: IS OF A FORMAT, for 3 only 10 .. 15 behind them", TranslateTest::tens);
        due.sentence("Terms: IS OF A FORMAT, for 1 anything behind them", TranslateTest::anything);
        due.sentence("Terms: IS OF A FORMAT, with an account", TranslateTest::otherAccount);
        due.end();
    }

    private static void everyForm() {
        PinModule x = Made.withKeys();
        for (int from : FORMATS) {
            for (int to : FORMATS) {
                for (int length = 4; length <= 12; length++) {
                    String pin = "905172836401".substring(12 - length);
                    int key = 4 * (length % 2);
                    Made.putSealed(x, 4, Hex.pinBlock(from, ACCOUNT, pin, "cafebabedeafdeed"));
                    String call = "translate of " + pin + " from " + from + " to " + to;
                    due.is(call, x.translate(4, key, 16 * from + to, Hex.number(ACCOUNT), FILL), length);
                    due.is(call + ", the block", Made.opened(x, key), Hex.pinBlock(to, ACCOUNT, pin, Hex.of(FILL)));
                }
            }
        }
    }

    private static void forms() {
        PinModule x = Made.withKeys();
        for (int format = -2; format <= 17; format++) {
            boolean so = format == 0 || format == 1 || format == 3;
            Made.putSealed(x, 0, (long) format << 60 | 0x041234ffffffffffL);
            due.is("from format " + format, x.translate(0, 0, 16 * format, 0, -1), so ? 4 : -2);
        }
        for (int format = 0; format < 16; format++) {
            boolean so = format == 0 || format == 1 || format == 3;
            Made.putSealed(x, 0, 0x041234ffffffffffL);
            due.is("to format " + format, x.translate(0, 0, format, 0, -1), so ? 4 : -2);
        }
        for (int forms : new int[] {-1, -16, 256, 1 << 28, Integer.MIN_VALUE, Integer.MAX_VALUE}) {
            due.is("forms " + forms, x.translate(0, 0, forms, 0, -1), -2);
        }
    }

    private static void keyNumbers() {
        PinModule x = Made.inUse();
        long block = x.peek(0);
        for (int k : new int[] {-1, 24, Integer.MIN_VALUE, Integer.MAX_VALUE}) {
            due.is("from " + k, x.translate(k, 0, 0, Made.ACCOUNT, 0), -2);
            due.is("to " + k, x.translate(0, k, 0, Made.ACCOUNT, 0), -2);
        }
        for (int k : new int[] {15, 23}) {
            due.is("from " + k + ", empty", x.translate(k, 0, 0, Made.ACCOUNT, 0), -3);
            due.is("to " + k + ", empty", x.translate(0, k, 0, Made.ACCOUNT, 0), -3);
        }
        Made.load(x, 15, 0, false, 5, 6);
        x.terminal(7, 6, 1);
        for (int k : new int[] {0, 4, 8, 15, 16, 17, 18, 23}) {
            x.poke(0, block);
            due.is("to " + k, x.translate(0, k, 1, Made.ACCOUNT, 7), 4);
            due.is("back from " + k, x.translate(k, 0, 16, Made.ACCOUNT, 0), 4);
            due.is("the block is as it was", x.peek(0), block);
        }
    }

    private static void sameKey() {
        PinModule x = Made.inUse();
        long block = x.peek(0);
        due.is("slot 0 to itself", x.translate(0, 0, 0, Made.ACCOUNT, 0), 4);
        due.is("the same block", x.peek(0), block);
        x.pin(17, 5, 0, 0x98765, 0);
        block = x.peek(0);
        due.is("a terminal to itself", x.translate(17, 17, 0, 0, 0), 5);
        due.is("the same block", x.peek(0), block);
        due.is("to format 3", x.translate(17, 17, 3, 0, -1), 5);
        due.is("to a slot", x.translate(17, 0, 48 + 3, 0, -1), 5);
        due.is("it is the PIN's block", Made.opened(x, 0), 0x3598765fffffffffL);
        due.is("back", x.translate(0, 17, 48, 0, 0), 5);
        due.is("the same block", x.peek(0), block);
        x.next(1);
        due.is("the terminal's next key is another", x.translate(17, 17, 0, 0, 0), -6);
    }

    /** Also from format 1 to format 1, where none is in the blocks. */
    private static void accounts() {
        for (int from : FORMATS) {
            for (int to : FORMATS) {
                PinModule x = Made.withKeys();
                for (int shift = 0; shift < 64; shift += 4) {
                    String call = "translate from " + from + " to " + to + ", account with a ";
                    long nine = 9L << shift;
                    Made.putSealed(x, 0, Hex.pinBlock(from, Hex.of(nine), "1234", "ffffffffffffffff"));
                    due.is(call + "10 at " + shift, x.translate(0, 0, 16 * from + to, 10L << shift, -1), -2);
                    due.is(call + "15 at " + shift, x.translate(0, 0, 16 * from + to, 15L << shift, -1), -2);
                    due.is(call + "9 at " + shift, x.translate(0, 0, 16 * from + to, nine, -1), 4);
                }
            }
        }
    }

    /** The tenth place from the lowest and the eleventh, though a PIN of 12 digits uses two of them. */
    private static void fills() {
        for (String pin : new String[] {"1234", "123456789012"}) {
            for (int place = 0; place < 16; place++) {
                for (int digit : new int[] {0, 9, 10, 15}) {
                    PinModule x = Made.withKeys();
                    Made.putSealed(x, 0, Hex.pinBlock(0, ACCOUNT, pin, ""));
                    long fill = -1L & ~(15L << 4 * place) | (long) digit << 4 * place;
                    int want = digit < 10 && place < 10 ? -2 : pin.length();
                    due.is("a " + digit + " in fill at " + place, x.translate(0, 0, 3, Hex.number(ACCOUNT), fill), want);
                }
            }
        }
        PinModule x = Made.withKeys();
        Made.putSealed(x, 0, 0x341234ffffffffffL);
        due.is("fill is not looked at for format 0", x.translate(0, 0, 48, 0, 0), 4);
        due.is("it may be anything for format 1", x.translate(0, 0, 1, 0, 0), 4);
        due.is("the block", Made.opened(x, 0), 0x1412340000000000L);
    }

    /** What a module says to a block that slot 0 sealed, account 0; it stays just when it is refused. */
    private static void blockIs(int format, long block, int want) {
        PinModule x = Made.withKeys();
        Made.putSealed(x, 0, block);
        long before = x.peek(0);
        due.is("block " + Hex.of(block) + " as format " + format, x.translate(0, 4, 16 * format, 0, 0), want);
        due.holds("the buffer of " + Hex.of(block), (x.peek(0) == before) == (want < 0));
    }

    private static void begins() {
        for (int format : FORMATS) {
            for (int first = 0; first < 16; first++) {
                blockIs(format, (long) first << 60 | 0x041234ffffffffffL, first == format ? 4 : -6);
                blockIs(format, (long) first << 60 | 0x0c123456789012ffL, first == format ? 12 : -6);
            }
        }
    }

    private static void lengths() {
        for (int format : FORMATS) {
            for (int length = 0; length < 16; length++) {
                long front = (long) format << 60 | (long) length << 56;
                long block = front | 0xffffffffffffffL >>> 4 * Math.min(length, 14);
                blockIs(format, block, length >= 4 && length <= 12 ? length : -6);
            }
        }
    }

    /** Each place of the shortest and of the longest PIN: 9 is a digit, 10 and 15 are none. */
    private static void digits() {
        for (int format : FORMATS) {
            for (int length : new int[] {4, 12}) {
                long front = (long) format << 60 | (long) length << 56 | 0xffffffffffffffL >>> 4 * length;
                for (int i = 0; i < length; i++) {
                    blockIs(format, front | 9L << 52 - 4 * i, length);
                    blockIs(format, front | 10L << 52 - 4 * i, -6);
                    blockIs(format, front | 15L << 52 - 4 * i, -6);
                }
            }
        }
    }

    private static void fifteens() {
        for (int i = 0; i < 10; i++) {
            blockIs(0, 0x041234ffffffffffL ^ 1L << 4 * i, -6);
            blockIs(0, 0x041234ffffffffffL ^ 15L << 4 * i, -6);
        }
        blockIs(0, 0x041234ffffffffffL, 4);
        blockIs(0, 0x0c123456789012ffL, 12);
        blockIs(0, 0x0c123456789012feL, -6);
        blockIs(0, 0x0c123456789012efL, -6);
    }

    private static void tens() {
        for (int i = 0; i < 10; i++) {
            long zeroAt = 0x341234ffffffffffL ^ 15L << 4 * i;
            for (int digit : new int[] {0, 9, 10, 15}) {
                blockIs(3, zeroAt | (long) digit << 4 * i, digit < 10 ? -6 : 4);
            }
        }
        blockIs(3, 0x3c123456789012aaL, 12);
        blockIs(3, 0x3c123456789012a9L, -6);
        blockIs(3, 0x3c1234567890129aL, -6);
    }

    private static void anything() {
        for (int digit = 0; digit < 16; digit++) {
            blockIs(1, 0x1412340000000000L | digit * 0x1111111111L, 4);
            blockIs(1, 0x1c12345678901200L | digit * 0x11L, 12);
        }
    }

    /** The account's first three digits and its last one are not in the block, the others are. */
    private static void otherAccount() {
        for (int format : FORMATS) {
            for (int place = 0; place < 16; place++) {
                PinModule x = Made.withKeys();
                Made.putSealed(x, 0, Hex.pinBlock(format, "0000000000000000", "9999", "aaaaaaaaaaaaaaaa"));
                boolean seen = format != 1 && place >= 3 && place < 15;
                int answer = x.translate(0, 0, 16 * format, 8L << 60 - 4 * place, 0);
                // an 8 added makes 9 to 1, which is a digit too: so the PIN's last two may be others
                boolean digitStill = place < 5;
                due.is("format " + format + ", another digit " + place, answer, seen && !digitStill ? -6 : 4);
            }
        }
        PinModule x = Made.withKeys();
        Made.putSealed(x, 0, Hex.pinBlock(0, ACCOUNT, "5555", ""));
        due.is("the account that it is of", x.translate(0, 0, 0, Hex.number(ACCOUNT), 0), 4);
        due.is("one less in its last but one digit", x.translate(0, 0, 0, Hex.number(ACCOUNT) - 16, 0), -6);
        due.is("one more there", x.translate(0, 0, 0, Hex.number(ACCOUNT) + 16, 0), -6);
    }
}
