/** Promise 18: verify; and OFFSETS of the Terms. Slots of Made.withKeys(): 0 and 4 PIN, 3 and 7 OFFSET. */
public final class VerifyTest {
    private static final Due due = new Due("verify");
    private static final int[] FORMATS = {0, 1, 3};
    private static final long ACCOUNT = Made.ACCOUNT;

    public static void main(String[] args) {
        due.sentence("Promise 18: has the PIN that is right with an offset: 0", VerifyTest::rightPins);
        due.sentence("Promise 18: (-6 also when not)", VerifyTest::wrongPins);
        due.sentence("Terms: NATURAL PIN: each of 10 and above less 10", VerifyTest::naturalDigits);
        due.sentence("Terms: NATURAL PIN: of the first four fours of bits of the account sealed", VerifyTest::wholeAccount);
        due.sentence("Terms: an offset (4 digits, told as 0 .. 65535 of four bits each)", VerifyTest::offsets);
        due.sentence("Terms: -2 a number that is not so (of digits as told): an offset's", VerifyTest::offsetDigits);
        due.sentence("Terms: REFUSALS, the first that holds: -2 before -6 (an offset's)", VerifyTest::offsetBeforeBlock);
        due.sentence("Terms: each the natural one plus the offset's, modulo 10", VerifyTest::moduloTen);
        due.sentence("Terms: when it has four digits (else -6)", VerifyTest::longerPins);
        due.sentence("Promise 18: how: 16 * slot of the OFFSET key + format", VerifyTest::hows);
        due.sentence("Promise 18: of a format", VerifyTest::otherFormats);
        due.sentence("Promise 18: under a PIN key", VerifyTest::keys);
        due.sentence("Terms: ACCOUNTS are numbers of 16 digits (verify)", VerifyTest::accounts);
        due.end();
    }

    /** A block of the PIN that is right with the offset, by slot 0 to the buffer. */
    private static void putRight(PinModule x, int format, int slot, long account, int offset) {
        x.pin(0, 16 * format + 4, account, Natural.rightPin(slot, account, offset), -1);
    }

    private static long account(int i) {
        return Hex.number(("" + 1234567890123456L * (i % 7 + 1)).substring(0, 10) + String.format("%06d", i));
    }

    private static void rightPins() {
        PinModule x = Made.withKeys();
        int[] offsets = {0, 0x1234, 0x9999, 0x0907, 0x5050};
        for (int format : FORMATS) {
            for (int i = 0; i < 20; i++) {
                int slot = i % 2 == 0 ? 3 : 7;
                putRight(x, format, slot, account(i), offsets[i % 5]);
                due.is("the right PIN, " + i + " of format " + format,
                        x.verify(0, 16 * slot + format, account(i), offsets[i % 5]), 0);
            }
        }
    }

    /** Each digit of the offset one more or one less, and another slot's key. */
    private static void wrongPins() {
        PinModule x = Made.withKeys();
        putRight(x, 0, 3, ACCOUNT, 0x5555);
        due.is("the right offset", x.verify(0, 48, ACCOUNT, 0x5555), 0);
        for (int shift = 0; shift < 16; shift += 4) {
            due.is("one more at " + shift, x.verify(0, 48, ACCOUNT, 0x5555 + (1 << shift)), -6);
            due.is("one less at " + shift, x.verify(0, 48, ACCOUNT, 0x5555 - (1 << shift)), -6);
        }
        due.is("another slot's key", x.verify(0, 7 * 16, ACCOUNT, 0x5555), -6);
    }

    /** Accounts whose sealed fours are 0, 9, 10 and 15 at each place. */
    private static void naturalDigits() {
        for (int place = 0; place < 4; place++) {
            for (int four : new int[] {0, 9, 10, 15}) {
                int i = 0;
                while (Natural.fours(3, account(i))[place] != four) {
                    i++;
                }
                PinModule x = Made.withKeys();
                long pin = Natural.rightPin(3, account(i), 0);
                due.is("the natural digit of " + four, pin >> 12 - 4 * place & 15, four % 10);
                x.pin(0, 4, account(i), pin, 0);
                due.is("a " + four + " at " + place + ", its natural PIN", x.verify(0, 48, account(i), 0), 0);
                long other = pin ^ 1L << 12 - 4 * place;
                x.pin(0, 4, account(i), other, 0);
                due.is("a " + four + " at " + place + ", another PIN", x.verify(0, 48, account(i), 0), -6);
            }
        }
    }

    /** All 16 digits of the account are sealed: also those that a PIN block does not have. */
    private static void wholeAccount() {
        PinModule x = Made.withKeys();
        for (int place : new int[] {0, 1, 2, 15}) {
            long other = ACCOUNT ^ 1L << 60 - 4 * place;
            putRight(x, 0, 3, ACCOUNT, 0);
            due.is("the account", x.verify(0, 48, ACCOUNT, 0), 0);
            boolean same = Natural.rightPin(3, other, 0) == Natural.rightPin(3, ACCOUNT, 0);
            due.holds("another natural PIN", !same);
            due.is("another digit " + place, x.verify(0, 48, other, 0), -6);
        }
    }

    /** Numbers at both sides of four digits, the least and the greatest. */
    private static void offsets() {
        PinModule x = Made.withKeys();
        for (int offset : new int[] {-1, -65536, 65536, 65537, 0x11234, Integer.MIN_VALUE, Integer.MAX_VALUE}) {
            putRight(x, 0, 3, ACCOUNT, offset & 65535);
            due.is("offset " + offset, x.verify(0, 48, ACCOUNT, offset), -2);
        }
        for (int offset : new int[] {0, 1, 0x9998, 0x9999}) {
            putRight(x, 0, 3, ACCOUNT, offset);
            due.is("offset " + offset, x.verify(0, 48, ACCOUNT, offset), 0);
            x.pin(0, 4, ACCOUNT, Natural.rightPin(3, ACCOUNT, offset) ^ 1, 0);
            due.is("offset " + offset + ", another PIN", x.verify(0, 48, ACCOUNT, offset), -6);
        }
    }

    /** Each four of bits from 0 to 15 at each place; the PIN is the one that the sum modulo 10 would ask for. */
    private static void offsetDigits() {
        PinModule x = Made.withKeys();
        for (int shift = 0; shift < 16; shift += 4) {
            for (int four = 0; four < 16; four++) {
                int offset = four << shift;
                putRight(x, 0, 3, ACCOUNT, offset);
                due.is("a " + four + " at " + shift, x.verify(0, 48, ACCOUNT, offset), four < 10 ? 0 : -2);
            }
        }
        for (int offset : new int[] {0x999a, 0xa999, 0xaaaa, 65534, 65535}) {
            putRight(x, 0, 3, ACCOUNT, offset);
            due.is("offset " + offset, x.verify(0, 48, ACCOUNT, offset), -2);
        }
    }

    /** No digit in the offset, and a block that would be refused too: of another PIN, length, format and key. */
    private static void offsetBeforeBlock() {
        PinModule x = Made.withKeys();
        x.pin(0, 4, ACCOUNT, Natural.rightPin(3, ACCOUNT, 0) ^ 1, 0);
        dueForOffset(x, "another PIN", 0, 48);
        dueForOffset(x, "another format", 0, 49);
        dueForOffset(x, "another key", 4, 48);
        x.pin(0, 5, ACCOUNT, 0x12345, 0);
        dueForOffset(x, "five digits", 0, 48);
    }

    private static void dueForOffset(PinModule x, String block, int k, int how) {
        due.is(block + ", offset 0", x.verify(k, how, ACCOUNT, 0), -6);
        due.is(block + ", offset 0xa000", x.verify(k, how, ACCOUNT, 0xa000), -2);
    }

    /** Each digit of the PIN with each of the offset: the sums are 0 to 18, and at both sides of 10. */
    private static void moduloTen() {
        int[] sums = new int[19];
        for (int i = 0; i < 60; i++) {
            PinModule x = Made.withKeys();
            long natural = Natural.rightPin(3, account(i), 0);
            for (int digit = 0; digit < 10; digit++) {
                int offset = 0x1111 * digit;
                putRight(x, 1, 3, account(i), offset);
                due.is("offset " + digit + " each, account " + i, x.verify(0, 49, account(i), offset), 0);
                for (int shift = 0; shift < 16; shift += 4) {
                    sums[(int) (natural >> shift & 15) + digit]++;
                }
            }
        }
        for (int sum = 0; sum < 19; sum++) {
            due.holds("the sum " + sum + " was among them", sums[sum] > 0);
        }
    }

    /** More digits, the right four in front or behind. */
    private static void longerPins() {
        long pin = Natural.rightPin(3, ACCOUNT, 0);
        for (int format : FORMATS) {
            PinModule x = Made.withKeys();
            x.pin(0, 16 * format + 4, ACCOUNT, pin, -1);
            due.is("four digits", x.verify(0, 48 + format, ACCOUNT, 0), 0);
            for (int length = 5; length <= 12; length++) {
                x.pin(0, 16 * format + length, ACCOUNT, pin << 4 * (length - 4), -1);
                due.is(length + " digits, the right ones in front", x.verify(0, 48 + format, ACCOUNT, 0), -6);
                x.pin(0, 16 * format + length, ACCOUNT, pin, -1);
                due.is(length + " digits, the right ones behind", x.verify(0, 48 + format, ACCOUNT, 0), -6);
            }
        }
    }

    private static void hows() {
        PinModule x = Made.withKeys();
        Made.load(x, 15, 3, false, Made.keyLeft(3), Made.RIGHT);
        for (int format = 0; format < 16; format++) {
            boolean so = format == 0 || format == 1 || format == 3;
            putRight(x, format, 3, ACCOUNT, 0);
            due.is("format " + format, x.verify(0, 48 + format, ACCOUNT, 0), so ? 0 : -2);
        }
        putRight(x, 0, 3, ACCOUNT, 0);
        for (int slot = -2; slot < 19; slot++) {
            int want = slot < 0 || slot > 15 ? -2 : slot == 3 || slot == 15 ? 0 : slot > 7 ? -3 : slot == 7 ? -6 : -4;
            due.is("slot " + slot, x.verify(0, 16 * slot, ACCOUNT, 0), want);
        }
        for (int how : new int[] {-1, -16, 256, 256 + 48, 1 << 28, Integer.MIN_VALUE, Integer.MAX_VALUE - 15}) {
            due.is("how " + how, x.verify(0, how, ACCOUNT, 0), -2);
        }
    }

    private static void otherFormats() {
        PinModule x = Made.withKeys();
        for (int made : FORMATS) {
            putRight(x, made, 3, ACCOUNT, 0x2468);
            for (int format : FORMATS) {
                int want = made == format ? 0 : -6;
                due.is("a block of " + made + " as " + format, x.verify(0, 48 + format, ACCOUNT, 0x2468), want);
            }
        }
        x.poke(0, 0);
        due.is("a block of nothing", x.verify(0, 48, ACCOUNT, 0), -6);
    }

    private static void keys() {
        PinModule x = Made.inUse();
        putRight(x, 0, 3, ACCOUNT, 0);
        for (int k : new int[] {-1, 24, Integer.MIN_VALUE, Integer.MAX_VALUE}) {
            due.is("verify(" + k + ")", x.verify(k, 48, ACCOUNT, 0), -2);
        }
        for (int k : new int[] {9, 15, 19, 23}) {
            due.is("verify(" + k + "), empty", x.verify(k, 48, ACCOUNT, 0), -3);
        }
        for (int k = 1; k < 4; k++) {
            due.is("verify(" + k + "), another usage", x.verify(k, 48, ACCOUNT, 0), -4);
        }
        due.is("another PIN key", x.verify(4, 48, ACCOUNT, 0), -6);
        for (int k : new int[] {0, 4, 8, 16, 17, 18}) {
            x.pin(k, 52, ACCOUNT, Natural.rightPin(7, ACCOUNT, 0x4321), -1);
            due.is("verify(" + k + ")", x.verify(k, 7 * 16 + 3, ACCOUNT, 0x4321), 0);
        }
        x.pin(17, 52, ACCOUNT, Natural.rightPin(7, ACCOUNT, 0x4321), -1);
        x.next(1);
        due.is("with a terminal's next key", x.verify(17, 7 * 16 + 3, ACCOUNT, 0x4321), -6);
    }

    private static void accounts() {
        for (int format : FORMATS) {
            PinModule x = Made.withKeys();
            for (int shift = 0; shift < 64; shift += 4) {
                putRight(x, format, 3, 9L << shift, 0);
                due.is("account with a 9 at " + shift, x.verify(0, 48 + format, 9L << shift, 0), 0);
                due.is("account with a 10 at " + shift, x.verify(0, 48 + format, 10L << shift, 0), -2);
                due.is("account with a 15 at " + shift, x.verify(0, 48 + format, 15L << shift, 0), -2);
            }
        }
    }
}
