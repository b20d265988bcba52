/** Promise 16: pin; and PINS, ACCOUNTS and PIN BLOCKS of the Terms. Slots 0 and 4 of Made.withKeys() are PIN slots. */
public final class PinTest {
    private static final Due due = new Due("pin");
    private static final int[] FORMATS = {0, 1, 3};
    private static final String ACCOUNT = Hex.of(Made.ACCOUNT);
    private static final long FILL = 0xfedcbaabcdeffdbaL;

    public static void main(String[] args) {
        due.sentence("Promise 16: A PIN sealed as a block, to the buffer: 0", PinTest::everyForm);
        due.sentence("Terms: PINS have 4 to 12 digits", PinTest::lengths);
        due.sentence("Terms: the first one told highest in a number of four bits each", PinTest::firstHighest);
        due.sentence("Promise 16: form is 16 * format + length", PinTest::formats);
        due.sentence("Promise 16: -2, too, if digits has more than length", PinTest::moreDigits);
        due.sentence("Terms: -2 a number that is not so (digits as told), a PIN's", PinTest::pinDigits);
        due.sentence("Terms: ACCOUNTS are numbers of 16 digits, four bits each", PinTest::accounts);
        due.sentence("Terms: format 0: then 15 each up to 16 fours of bits", PinTest::fifteens);
        due.sentence("Terms: 0000 and the account's 12 digits in front of the last one", PinTest::accountDigits);
        due.sentence("Terms: Format 1: fill's digits from its lowest ones (as many as are wanted, in order)",
                PinTest::fillOfFormatOne);
        due.sentence("Terms: Format 1: each 0 .. 15", PinTest::anyFillOfFormatOne);
        due.sentence("Terms: Format 3: fill's digits (each 10 .. 15 of those that are used; -2 otherwise)",
                PinTest::fillOfFormatThree);
        due.sentence("Promise 16: fill is not looked at for format 0", PinTest::fillOfFormatZero);
        due.sentence("Promise 16: by a PIN slot (k 0 .. 15) or a terminal's PIN key (16 + t)", PinTest::keys);
        due.end();
    }

    private static int pin(PinModule x, int format, int length, long digits, long fill) {
        return x.pin(0, 16 * format + length, Made.ACCOUNT, digits, fill);
    }

    private static void everyForm() {
        PinModule x = Made.withKeys();
        for (int format : FORMATS) {
            for (int length = 4; length <= 12; length++) {
                for (int first : new int[] {0, 9}) {
                    String pin = (first + "90817263549").substring(0, length);
                    String call = "pin of format " + format + ", " + pin;
                    int slot = 4 * (length % 2);
                    due.is(call, x.pin(slot, 16 * format + length, Made.ACCOUNT, Hex.number(pin), FILL), 0);
                    due.is(call + ", the block", Made.opened(x, slot), Hex.pinBlock(format, ACCOUNT, pin, Hex.of(FILL)));
                }
            }
        }
    }

    private static void lengths() {
        PinModule x = Made.withKeys();
        for (int format : FORMATS) {
            for (int length = 0; length < 16; length++) {
                boolean so = length >= 4 && length <= 12;
                due.is("length " + length + " of format " + format, pin(x, format, length, 0, -1), so ? 0 : -2);
            }
            due.is("the 3 digits 123, format " + format, pin(x, format, 3, 0x123, -1), -2);
            due.is("the 4 digits 1234, format " + format, pin(x, format, 4, 0x1234, -1), 0);
            due.is("12 nines, format " + format, pin(x, format, 12, 0x999999999999L, -1), 0);
            due.is("13 nines, format " + format, pin(x, format, 13, 0x9999999999999L, -1), -2);
        }
    }

    /** Blocks written out by hand, so that they lean on no other code. */
    private static void firstHighest() {
        PinModule x = Made.withKeys();
        long twelve = 0x0000765432109876L;
        pin(x, 0, 4, 0x1234, 0);
        due.is("1234 of format 0", Made.opened(x, 0), 0x041234ffffffffffL ^ twelve);
        pin(x, 0, 5, 0x0012, 0);
        due.is("00012 of format 0", Made.opened(x, 0), 0x0500012fffffffffL ^ twelve);
        pin(x, 1, 4, 0x1234, 0x0123456789abcdefL);
        due.is("1234 of format 1", Made.opened(x, 0), 0x1412346789abcdefL);
        pin(x, 3, 12, 0x123456789012L, 0xcd);
        due.is("123456789012 of format 3", Made.opened(x, 0), 0x3c123456789012cdL ^ twelve);
    }

    private static void formats() {
        PinModule x = Made.withKeys();
        for (int format = -3; format <= 20; format++) {
            boolean so = format == 0 || format == 1 || format == 3;
            due.is("format " + format, pin(x, format, 4, 0x1234, -1), so ? 0 : -2);
            due.is("format " + format + ", length 12", pin(x, format, 12, 0x1234, -1), so ? 0 : -2);
        }
        for (int form : new int[] {Integer.MIN_VALUE, Integer.MIN_VALUE + 4, Integer.MAX_VALUE, 1 << 28 | 4, -12, -4}) {
            due.is("form " + form, x.pin(0, form, Made.ACCOUNT, 0x1234, -1), -2);
        }
    }

    /** The digit at the length's place is one too many, also when it is the highest there is. */
    private static void moreDigits() {
        PinModule x = Made.withKeys();
        for (int length = 4; length <= 12; length++) {
            due.is("length " + length + ", as many", pin(x, 0, length, 1L << 4 * (length - 1), 0), 0);
            due.is("length " + length + ", one less", pin(x, 0, length, 1L << 4 * (length - 2), 0), 0);
            due.is("length " + length + ", one more", pin(x, 0, length, 1L << 4 * length, 0), -2);
            due.is("length " + length + ", 16 digits", pin(x, 0, length, 1L << 60, 0), -2);
            due.is("length " + length + ", 16 digits from 9 on", pin(x, 0, length, 9L << 60, 0), -2);
        }
        due.is("12345 as 4 digits of format 1", pin(x, 1, 4, 0x12345, 0), -2);
        due.is("12345 as 4 digits of format 3", pin(x, 3, 4, 0x12345, -1), -2);
    }

    private static void pinDigits() {
        for (int format : FORMATS) {
            PinModule x = Made.withKeys();
            for (int length : new int[] {4, 5, 11, 12}) {
                for (int i = 0; i < length; i++) {
                    due.is("length " + length + ", a 9 at " + i, pin(x, format, length, 9L << 4 * i, -1), 0);
                    due.is("length " + length + ", a 10 at " + i, pin(x, format, length, 10L << 4 * i, -1), -2);
                    due.is("length " + length + ", a 15 at " + i, pin(x, format, length, 15L << 4 * i, -1), -2);
                }
            }
            due.is("digits -1", pin(x, format, 12, -1, -1), -2);
        }
    }

    private static void accounts() {
        for (int format : FORMATS) {
            PinModule x = Made.withKeys();
            int form = 16 * format + 4;
            for (int shift = 0; shift < 64; shift += 4) {
                due.is("account with a 9 at " + shift, x.pin(0, form, 9L << shift, 0x1234, -1), 0);
                due.is("account with a 10 at " + shift, x.pin(0, form, 10L << shift, 0x1234, -1), -2);
                due.is("account with a 15 at " + shift, x.pin(0, form, 15L << shift, 0x1234, -1), -2);
            }
            due.is("account 0", x.pin(0, form, 0, 0x1234, -1), 0);
            due.is("account of nines", x.pin(0, form, 0x9999999999999999L, 0x1234, -1), 0);
            due.is("account -1", x.pin(0, form, -1, 0x1234, -1), -2);
        }
    }

    private static void fifteens() {
        PinModule x = Made.withKeys();
        x.pin(0, 4, 0, 0, 0);
        due.is("ten behind 4 digits", Made.opened(x, 0), 0x040000ffffffffffL);
        x.pin(0, 11, 0, 0, 0);
        due.is("three behind 11 digits", Made.opened(x, 0), 0x0b00000000000fffL);
        x.pin(0, 12, 0, 0, 0);
        due.is("two behind 12 digits", Made.opened(x, 0), 0x0c000000000000ffL);
    }

    /** Each digit of an account alone: the first three and the last one are not in the block, the others are. */
    private static void accountDigits() {
        PinModule x = Made.withKeys();
        for (int format : FORMATS) {
            for (int place = 0; place < 16; place++) {
                x.pin(0, 16 * format + 4, 0, 0x5555, -1);
                long without = Made.opened(x, 0);
                x.pin(0, 16 * format + 4, 9L << 60 - 4 * place, 0x5555, -1);
                long added = format == 1 || place < 3 || place == 15 ? 0 : 9L << 56 - 4 * place;
                due.is("what digit " + place + " adds in format " + format, Made.opened(x, 0) ^ without, added);
            }
        }
    }

    /** The digit of fill at the place behind the wanted ones is not in the block. */
    private static void fillOfFormatOne() {
        PinModule x = Made.withKeys();
        for (int length = 4; length <= 12; length++) {
            int wanted = 14 - length;
            String call = "behind " + length + " digits: ";
            pin(x, 1, length, 0, 0x0123456789abcdefL);
            String lowest = "0123456789abcdef".substring(16 - wanted);
            due.is(call + "in order", Made.opened(x, 0), Hex.number("1" + Integer.toHexString(length) + "0".repeat(length) + lowest));
            pin(x, 1, length, 0, 0);
            long without = Made.opened(x, 0);
            pin(x, 1, length, 0, 5L << 4 * (wanted - 1));
            due.is(call + "the last that is wanted", Made.opened(x, 0) ^ without, 5L << 4 * (wanted - 1));
            pin(x, 1, length, 0, 5L << 4 * wanted);
            due.is(call + "one more", Made.opened(x, 0) ^ without, 0);
        }
    }

    private static void anyFillOfFormatOne() {
        PinModule x = Made.withKeys();
        for (int digit = 0; digit < 16; digit++) {
            long fill = digit * 0x1111111111111111L;
            due.is("fill of " + digit, pin(x, 1, 4, 0x1234, fill), 0);
            due.is("its block", Made.opened(x, 0), 0x1412340000000000L | fill & 0xffffffffffL);
        }
    }

    /** At the last place that is used, and at the first that is not. */
    private static void fillOfFormatThree() {
        PinModule x = Made.withKeys();
        for (int length = 4; length <= 12; length++) {
            int last = 14 - length - 1;
            for (int digit : new int[] {0, 9, 10, 15}) {
                String call = "length " + length + ", a " + digit + " in fill at ";
                due.is(call + "0", pin(x, 3, length, 0, with(digit, 0)), digit < 10 ? -2 : 0);
                due.is(call + last, pin(x, 3, length, 0, with(digit, last)), digit < 10 ? -2 : 0);
                due.is(call + (last + 1), pin(x, 3, length, 0, with(digit, last + 1)), 0);
                due.is(call + "15", pin(x, 3, length, 0, with(digit, 15)), 0);
            }
        }
        PinModule y = Made.withKeys();
        for (int digit = 0; digit < 16; digit++) {
            int answer = y.pin(0, 52, 0, 0x1234, digit * 0x1111111111111111L);
            due.is("fill of " + digit, answer, digit < 10 ? -2 : 0);
            long block = 0x3412340000000000L | digit * 0x1111111111L;
            due.holds("its block", answer != 0 || Made.opened(y, 0) == block);
        }
    }

    /** Fill of 15s with another digit at a place, counted from the lowest. */
    private static long with(int digit, int place) {
        return -1L & ~(15L << 4 * place) | (long) digit << 4 * place;
    }

    private static void fillOfFormatZero() {
        PinModule x = Made.withKeys();
        for (long fill : new long[] {0, -1, 9, 10, Long.MIN_VALUE, 0x0123456789abcdefL}) {
            due.is("format 0 with fill " + fill, x.pin(0, 4, 0, 0x1234, fill), 0);
            due.is("its block", Made.opened(x, 0), 0x041234ffffffffffL);
        }
    }

    private static void keys() {
        PinModule x = Made.sealedModule();
        Made.load(x, 0, 0, true, Made.keyLeft(0), Made.RIGHT);
        Made.load(x, 15, 0, false, Made.keyLeft(4), Made.RIGHT);
        Made.load(x, 2, 2, true, Made.LEFT, Made.RIGHT);
        x.terminal(0, 2, 5);
        x.terminal(7, 2, 6);
        for (int k : new int[] {-1, 24, Integer.MIN_VALUE, Integer.MAX_VALUE}) {
            due.is("pin(" + k + ")", x.pin(k, 4, 0, 0x1234, 0), -2);
        }
        for (int k : new int[] {0, 15, 16, 23}) {
            due.is("pin(" + k + ")", x.pin(k, 4, 0, 0x1234, 0), 0);
        }
        for (int k : new int[] {1, 14, 17, 22}) {
            due.is("pin(" + k + "), empty", x.pin(k, 4, 0, 0x1234, 0), -3);
        }
        for (int usage = 1; usage < 4; usage++) {
            Made.load(x, 3 + usage, usage, true, 1, 2);
            due.is("pin by usage " + usage, x.pin(3 + usage, 4, 0, 0x1234, 0), -4);
        }
        x.pin(15, 4, 0, 0x1234, 0);
        due.is("the block of slot 15", Made.opened(x, 4), 0x041234ffffffffffL);
    }
}
