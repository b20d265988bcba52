/** Promises 12 to 15: terminal, next, skip, check; and TERMINALS of the Terms. */
public final class TerminalTest {
    private static final Due due = new Due("terminals");
    /** The key serial number FFFF 9876 5432 10E0 0000 of ANSI X9.24-1's example. */
    private static final long SERIAL = 0x9876543210e00000L >>> 21;
    private static final long GREATEST = (1L << 43) - 1;
    private static final int LAST = Made.LAST_COUNTER;
    private static final long VARIANT = 0xc0c0c0c000000000L;

    public static void main(String[] args) {
        due.sentence("Terms: TERMINALS 0 .. 7", TerminalTest::terminalNumbers);
        due.sentence("Promise 12: its serial (0 .. 2^43 - 1, perhaps another's)", TerminalTest::serials);
        due.sentence("Promise 12: A terminal (that is none yet; it is one for good)", TerminalTest::forGood);
        due.sentence("Promise 12: of a BASE slot", TerminalTest::baseSlots);
        due.sentence("Promise 12: Its counter is 0.", TerminalTest::counterBeginsAtZero);
        due.sentence("Terms: THE REGISTER is the serial and a COUNTER of 21 bits", TerminalTest::register);
        due.sentence("Terms: THE FIRST KEY: without its lowest 16 bits", TerminalTest::firstKeys);
        due.sentence("Terms: next(): the next greater number with at most ten bits 1", TerminalTest::tenBits);
        due.sentence("Promise 13: The next counter of a terminal", TerminalTest::nextCounters);
        due.sentence("Terms: (-7 for ever when there is none, 2^21 and above)", TerminalTest::exhausted);
        due.sentence("Promise 14: the least one with at most ten bits 1 that is at or above a number", TerminalTest::atOrAbove);
        due.sentence("Promise 14: the number 1 .. 2^21 - 1", TerminalTest::skipNumbers);
        due.sentence("Promise 14: -7 when there is none", TerminalTest::skipsToNone);
        due.sentence("Promise 14: or it would be less than it is", TerminalTest::skipsBack);
        due.sentence("Promise 14: it may be the one it is", TerminalTest::skipsToItself);
        due.sentence("Promise 15: a slot's key (k 0 .. 15), or of a terminal (16 + t)", TerminalTest::checkNumbers);
        due.sentence("Promise 15: with the counter 0 the first key", TerminalTest::checkOfFirstKey);
        due.sentence("Terms: THE CURRENT KEY: for each bit 1 of the counter from the highest on", TerminalTest::currentKeys);
        due.sentence("Terms: PIN KEY: the current key with 255 added to byte 7 of each half", TerminalTest::pinKeys);
        due.sentence("Terms: (ANSI X9.24-1)", TerminalTest::standardExamples);
        due.end();
    }

    private static PinModule withBase() {
        PinModule x = Made.sealedModule();
        Made.load(x, 2, 2, true, Made.LEFT, Made.RIGHT);
        return x;
    }

    /** Terminal 0 of withBase() with a counter that is allowed. */
    private static PinModule at(int counter) {
        PinModule x = withBase();
        x.terminal(0, 2, SERIAL);
        x.skip(0, counter);
        return x;
    }

    private static void terminalNumbers() {
        PinModule x = withBase();
        for (int t : new int[] {-1, 8, Integer.MIN_VALUE, Integer.MAX_VALUE}) {
            due.is("terminal(" + t + ")", x.terminal(t, 2, 0), -2);
            due.is("next(" + t + ")", x.next(t), -2);
            due.is("skip(" + t + ", 1)", x.skip(t, 1), -2);
        }
        for (int t = 0; t < 8; t++) {
            due.is("next(" + t + ") of none", x.next(t), -3);
            due.is("skip(" + t + ", 1) of none", x.skip(t, 1), -3);
            due.is("terminal(" + t + ")", x.terminal(t, 2, 0), 0);
            due.is("next(" + t + ")", x.next(t), 1);
            due.is("skip(" + t + ", 1)", x.skip(t, 1), 1);
        }
    }

    private static void serials() {
        PinModule x = withBase();
        for (long serial : new long[] {-1, GREATEST + 1, GREATEST + 2, Long.MIN_VALUE, Long.MAX_VALUE}) {
            due.is("serial " + serial, x.terminal(0, 2, serial), -2);
        }
        long[] serials = {0, 1, GREATEST - 1, GREATEST, GREATEST};
        for (int t = 0; t < serials.length; t++) {
            due.is("serial " + serials[t], x.terminal(t, 2, serials[t]), 0);
            due.is("its first key", x.check(16 + t), checkValue(serials[t], 0));
            x.next(t);
            due.is("its next key", x.check(16 + t), checkValue(serials[t], 1));
        }
    }

    private static void forGood() {
        PinModule x = withBase();
        due.is("terminal(5), none yet", x.terminal(5, 2, 9), 0);
        due.is("terminal(5), one already", x.terminal(5, 2, 9), -3);
        due.is("terminal(5) with another serial", x.terminal(5, 2, 10), -3);
        x.clear(2);
        due.is("terminal(5), its slot empty", x.terminal(5, 2, 9), -3);
        x.load(2, 2, true);
        due.is("terminal(5), its slot filled again", x.terminal(5, 2, 9), -3);
        x.skip(5, LAST);
        due.is("terminal(5), exhausted", x.terminal(5, 2, 9), -3);
        due.is("it goes on with its counter", x.next(5), -7);
        due.is("the one below is none yet", x.terminal(4, 2, 9), 0);
        due.is("the one above is none yet", x.terminal(6, 2, 9), 0);
    }

    private static void baseSlots() {
        PinModule x = Made.withKeys();
        for (int slot = 0; slot < 8; slot++) {
            due.is("slot " + slot + " of usage " + slot % 4, x.terminal(slot, slot, 0), slot % 4 == 2 ? 0 : -4);
            due.is("next(" + slot + ") then", x.next(slot), slot % 4 == 2 ? 1 : -3);
        }
        due.is("slot 8, empty", x.terminal(0, 8, 0), -3);
        due.is("slot 15, empty", x.terminal(0, 15, 0), -3);
        due.is("slot -1", x.terminal(0, -1, 0), -2);
        due.is("slot 16", x.terminal(0, 16, 0), -2);
        Made.load(x, 8, 2, false, 1, 2);
        due.is("a slot that may not be exported", x.terminal(0, 8, 0), 0);
    }

    private static void counterBeginsAtZero() {
        PinModule x = withBase();
        for (int t = 0; t < 8; t++) {
            x.terminal(t, 2, GREATEST - t);
            due.is("the first key of terminal " + t, x.check(16 + t), checkValue(GREATEST - t, 0));
            due.is("next(" + t + ")", x.next(t), 1);
        }
    }

    /** Serials and counters of all ones and of none, side by side: neither reaches into the other. */
    private static void register() {
        for (long serial : new long[] {0, 1, GREATEST - 1, GREATEST, 1L << 42}) {
            PinModule x = withBase();
            x.terminal(0, 2, serial);
            for (int counter : new int[] {1, 1023, 1 << 20, LAST}) {
                due.is("skip(0, " + counter + ")", x.skip(0, counter), counter);
                due.is("the key of " + counter + ", serial " + serial, x.check(16), checkValue(serial, counter));
            }
        }
    }

    /** The lowest bit of the serial is in what is sealed, and the counter is not. */
    private static void firstKeys() {
        PinModule x = withBase();
        long[] serials = {0, 1, 2, 31, 32, 1L << 42, GREATEST, SERIAL};
        for (int t = 0; t < serials.length; t++) {
            x.terminal(t, 2, serials[t]);
            long front = 0xffff000000000000L + serials[t] * 32;
            long left = Jce.sealed(Made.LEFT, Made.RIGHT, front);
            long right = Jce.sealed(Made.LEFT ^ VARIANT, Made.RIGHT ^ VARIANT, front);
            due.is("the first key of serial " + serials[t], x.check(16 + t), Jce.checkValue(left, right));
        }
    }

    /** Up to ten ones a number is next, with eleven it is not; each row is a counter and the ones that follow it. */
    private static void tenBits() {
        int[][] rows = {{1022, 1023, 1024}, {0x7fc, 0x7fd, 0x7fe, 0x800, 0x801}, {0xff8, 0xff9, 0xffa, 0xffc, 0x1000},
            {0x1003fe, 0x100400, 0x100401}, {0x1ff001, 0x1ff002, 0x1ff004, 0x1ff008}, {0x1ff200, 0x1ff400, LAST}};
        for (int[] row : rows) {
            PinModule x = at(row[0]);
            for (int i = 1; i < row.length; i++) {
                due.is("next(0) after " + row[i - 1], x.next(0), row[i]);
            }
        }
    }

    private static void nextCounters() {
        PinModule x = at(0x7f0);
        x.terminal(1, 2, SERIAL);
        int want = 0x7f0;
        for (int i = 0; i < 300; i++) {
            do {
                want++;
            } while (Integer.bitCount(want) > 10);
            due.is("next(0)", x.next(0), want);
        }
        due.is("another terminal stays", x.next(1), 1);
        due.is("and goes on", x.next(1), 2);
    }

    private static void exhausted() {
        PinModule x = at(0x1ff400);
        due.is("next(0), the last", x.next(0), LAST);
        int value = x.check(16);
        for (int i = 0; i < 5; i++) {
            due.is("next(0) after the last", x.next(0), -7);
            due.is("its key stays", x.check(16), value);
        }
        due.is("it is the last one's", value, checkValue(SERIAL, LAST));
        due.is("skip(0, 1) after the last", x.skip(0, 1), -7);
        due.is("skip to the last", x.skip(0, LAST), LAST);
        due.is("next(0) still", x.next(0), -7);
        due.is("a PIN by its last key", x.pin(16, 4, 0, 0x1234, 0), 0);
        x.terminal(1, 2, SERIAL);
        due.is("another of the same serial goes on", x.next(1), 1);
    }

    private static void atOrAbove() {
        int[][] rows = {{1, 1}, {2, 2}, {1022, 1022}, {1023, 1023}, {1024, 1024}, {0x7fe, 0x7fe}, {0x7ff, 0x800},
            {0x800, 0x800}, {0xffc, 0xffc}, {0xffd, 0x1000}, {0xffe, 0x1000}, {0xfff, 0x1000}, {0x1000, 0x1000},
            {0x1003fe, 0x1003fe}, {0x1003ff, 0x100400}, {0x1ff400, 0x1ff400}, {0x1ff401, LAST}, {LAST - 1, LAST},
            {LAST, LAST}};
        for (int[] row : rows) {
            PinModule x = at(1);
            due.is("skip(0, " + row[0] + ")", x.skip(0, row[0]), row[1]);
            due.is("its key", x.check(16), checkValue(SERIAL, row[1]));
        }
        everyNumber();
    }

    /** Numbers from all of the range, against a search. */
    private static void everyNumber() {
        for (int start = 0; start < 40; start++) {
            PinModule x = at(1);
            for (int number = 5 + 1301 * start; number < 1 << 21; number += 52021) {
                int want = number;
                while (Integer.bitCount(want) > 10) {
                    want++;
                }
                due.is("skip(0, " + number + ")", x.skip(0, number), want < 1 << 21 ? want : -7);
            }
        }
    }

    private static void skipNumbers() {
        for (int number : new int[] {0, -1, 1 << 21, (1 << 21) + 1, Integer.MIN_VALUE, Integer.MAX_VALUE}) {
            due.is("skip(0, " + number + ")", at(1).skip(0, number), -2);
        }
        PinModule x = withBase();
        x.terminal(0, 2, SERIAL);
        due.is("skip(0, 0) of the counter 0", x.skip(0, 0), -2);
        due.is("skip(0, 1)", x.skip(0, 1), 1);
        due.is("skip(0, 2)", x.skip(0, 2), 2);
        due.is("skip(0, 2^21 - 1)", x.skip(0, (1 << 21) - 1), -7);
    }

    private static void skipsToNone() {
        for (int number : new int[] {LAST + 1, LAST + 2, 0x1ffc00, (1 << 21) - 2, (1 << 21) - 1}) {
            PinModule x = at(2);
            due.is("skip(0, " + number + ")", x.skip(0, number), -7);
            due.is("it is where it was", x.next(0), 3);
        }
        due.is("skip(0, " + (LAST - 1) + ")", at(2).skip(0, LAST - 1), LAST);
        due.is("skip(0, " + LAST + ")", at(2).skip(0, LAST), LAST);
        due.is("skip of an exhausted one to none", at(LAST).skip(0, LAST + 1), -7);
    }

    private static void skipsBack() {
        for (int number : new int[] {1, 1023, 2045, 2046}) {
            PinModule x = at(2048);
            due.is("skip(0, " + number + ") at 2048", x.skip(0, number), -7);
            due.is("it is where it was", x.next(0), 2049);
        }
        due.is("skip(0, 1) at 2", at(2).skip(0, 1), -7);
        due.is("skip(0, 3) at 2", at(2).skip(0, 3), 3);
        due.is("skip(0, 2049) at 2048", at(2048).skip(0, 2049), 2049);
        due.is("skip(0, 1) of an exhausted one", at(LAST).skip(0, 1), -7);
        due.is("skip of an exhausted one to the one before", at(LAST).skip(0, 0x1ff400), -7);
    }

    /** Also from a number below that has too many ones. */
    private static void skipsToItself() {
        for (int counter : new int[] {1, 2, 1023, 2046, 2048, 1 << 20, LAST}) {
            PinModule x = at(counter);
            int value = x.check(16);
            due.is("skip(0, " + counter + ") at it", x.skip(0, counter), counter);
            due.is("skip(0, " + counter + ") again", x.skip(0, counter), counter);
            due.is("its key stays", x.check(16), value);
        }
        due.is("skip(0, 2047) at 2048", at(2048).skip(0, 2047), 2048);
        due.is("skip of an exhausted one from below", at(LAST).skip(0, LAST - 1), LAST);
        due.is("skip of an exhausted one from far below", at(LAST).skip(0, 0x1ff401), LAST);
    }

    private static void checkNumbers() {
        PinModule x = withBase();
        for (int k : new int[] {-1, 24, Integer.MIN_VALUE, Integer.MAX_VALUE}) {
            due.is("check(" + k + ")", x.check(k), -2);
        }
        for (int k : new int[] {0, 15, 16, 23}) {
            due.is("check(" + k + ") of none", x.check(k), -3);
        }
        Made.load(x, 0, 0, true, 3, 4);
        Made.load(x, 15, 1, false, 5, 6);
        x.terminal(0, 2, 100);
        x.terminal(7, 2, 107);
        due.is("check(0)", x.check(0), Jce.checkValue(3, 4));
        due.is("check(15)", x.check(15), Jce.checkValue(5, 6));
        due.is("check(16)", x.check(16), checkValue(100, 0));
        due.is("check(23)", x.check(23), checkValue(107, 0));
        due.is("check(1), none still", x.check(1), -3);
        due.is("check(22), none still", x.check(22), -3);
    }

    private static void checkOfFirstKey() {
        PinModule x = withBase();
        x.terminal(0, 2, SERIAL);
        due.is("check(16), the counter 0", x.check(16), Jce.checkValue(0x6ac292faa1315b4dL, 0x858ab3a3d7d5933aL));
        x.next(0);
        due.is("check(16), the counter 1", x.check(16), Jce.checkValue(0x042666b49184cfa3L, 0x68de9628d0397bc9L));
    }

    /** Each bit alone, the most ones there can be, and counters at random. */
    private static void currentKeys() {
        PinModule x = at(1);
        for (int bit = 0; bit < 21; bit++) {
            x.skip(0, 1 << bit);
            due.is("the key of 2^" + bit, x.check(16), checkValue(SERIAL, 1 << bit));
        }
        for (int counter : new int[] {3, 1023, 2046, 0x155554, LAST}) {
            due.is("the key of " + counter, at(counter).check(16), checkValue(SERIAL, counter));
        }
        java.util.Random random = new java.util.Random(924);
        for (int i = 0; i < 40; i++) {
            PinModule y = withBase();
            long serial = random.nextLong() & GREATEST;
            y.terminal(5, 2, serial);
            int counter = y.skip(5, 1 + random.nextInt(LAST));
            due.is("the key of " + counter + ", serial " + serial, y.check(21), checkValue(serial, counter));
        }
    }

    /** check() and a slot's key have nothing added. */
    private static void pinKeys() {
        PinModule x = withBase();
        x.terminal(0, 2, SERIAL);
        long[][] keys = {{0x6ac292faa1315b4dL, 0x858ab3a3d7d5933aL}, {0x042666b49184cfa3L, 0x68de9628d0397bc9L}};
        for (long[] key : keys) {
            due.is("pin(16)", x.pin(16, 6, 0, 0x123456, 0), 0);
            due.is("its block", x.peek(0), Jce.sealed(key[0] ^ 255, key[1] ^ 255, 0x06123456ffffffffL));
            due.is("check(16)", x.check(16), Jce.checkValue(key[0], key[1]));
            x.next(0);
        }
        Made.load(x, 3, 0, true, Made.LEFT, Made.RIGHT);
        x.pin(3, 6, 0, 0x123456, 0);
        due.is("a slot's block", x.peek(0), Jce.sealed(Made.LEFT, Made.RIGHT, 0x06123456ffffffffL));
    }

    /** The PIN 1234 of account 4012345678909, sealed by the first ten keys of the standard's example. */
    private static void standardExamples() {
        long[] blocks = {0x1b9c1845eb993a7aL, 0x10a01c8d02c69107L, 0x18dc07b94797b466L, 0x0bc79509d5645df7L,
            0x5bc0af22ad87b327L, 0xa16df70ae36158d8L, 0x27711c16cb257f8eL, 0x50e55547a5027551L,
            0x536cf7f678acfc8dL, 0xedabba23221833feL};
        PinModule x = withBase();
        x.terminal(7, 2, SERIAL);
        for (int i = 0; i < blocks.length; i++) {
            due.is("next(7)", x.next(7), i + 1);
            due.is("pin(23)", x.pin(23, 4, 0x4012345678909L, 0x1234, 0), 0);
            due.is("the block of counter " + (i + 1), x.peek(0), blocks[i]);
        }
    }

    private static int checkValue(long serial, int counter) {
        long front = 0xffffL << 48 | serial << 5;
        long left = Jce.sealed(Made.LEFT, Made.RIGHT, front);
        long right = Jce.sealed(Made.LEFT ^ VARIANT, Made.RIGHT ^ VARIANT, front);
        long register = serial * (1L << 21);
        for (int bit = 1 << 20; bit > 0; bit /= 2) {
            if ((counter & bit) != 0) {
                register += bit;
                long newRight = Jce.des(left, register ^ right) ^ right;
                left = Jce.des(left ^ VARIANT, register ^ right ^ VARIANT) ^ right ^ VARIANT;
                right = newRight;
            }
        }
        return Jce.checkValue(left, right);
    }
}
