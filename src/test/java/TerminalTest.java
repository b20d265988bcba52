/** Promises 12 to 15: terminal, next, skip, check. */
public final class TerminalTest {
    private static final Due due = new Due("terminals");
    /** The key serial number FFFF 9876 5432 10E0 0000 of ANSI X9.24-1's example. */
    private static final long SERIAL = 0x9876543210e00000L >>> 21;
    private static final long GREATEST = (1L << 43) - 1;
    private static final long VARIANT = 0xc0c0c0c000000000L;

    public static void main(String[] args) {
        standardKeys();
        standardPinBlocks();
        makes();
        makeRefusals();
        counts();
        skips();
        exhausted();
        derives();
        checkRefusals();
        due.end();
    }

    private static PinModule withBase() {
        PinModule x = Made.sealedModule();
        Made.load(x, 2, 2, true, Made.LEFT, Made.RIGHT);
        return x;
    }

    /** The first key and the key of counter 1 as the standard's example tells them. */
    private static void standardKeys() {
        PinModule x = withBase();
        due.is("promise 12: terminal", x.terminal(0, 2, SERIAL), 0);
        due.is("promise 15: the first key", x.check(16), Jce.checkValue(0x6ac292faa1315b4dL, 0x858ab3a3d7d5933aL));
        due.is("promise 13: next(0)", x.next(0), 1);
        due.is("promise 15: the key of counter 1", x.check(16),
                Jce.checkValue(0x042666b49184cfa3L, 0x68de9628d0397bc9L));
    }

    /** The PIN 1234 of account 4012345678909, sealed by the first ten keys of the standard's example. */
    private static void standardPinBlocks() {
        long[] blocks = {0x1b9c1845eb993a7aL, 0x10a01c8d02c69107L, 0x18dc07b94797b466L, 0x0bc79509d5645df7L,
            0x5bc0af22ad87b327L, 0xa16df70ae36158d8L, 0x27711c16cb257f8eL, 0x50e55547a5027551L,
            0x536cf7f678acfc8dL, 0xedabba23221833feL};
        PinModule x = withBase();
        x.terminal(7, 2, SERIAL);
        for (int i = 0; i < blocks.length; i++) {
            due.is("promise 13: next(7)", x.next(7), i + 1);
            due.is("promise 16: pin(23)", x.pin(23, 4, 0x4012345678909L, 0x1234, 0), 0);
            due.is("promise 16: the block of counter " + (i + 1), x.peek(0), blocks[i]);
        }
    }

    private static void makes() {
        PinModule x = withBase();
        long[] serials = {0, GREATEST, 1, SERIAL, SERIAL, 77, 1L << 42, 5};
        for (int t = 0; t < 8; t++) {
            due.is("promise 12: terminal(" + t + ")", x.terminal(t, 2, serials[t]), 0);
            due.is("promise 12: -3 for one that is", x.terminal(t, 2, 9), -3);
        }
        for (int t = 0; t < 8; t++) {
            due.is("promise 15: check(" + (16 + t) + ")", x.check(16 + t), checkValue(serials[t], 0));
            due.is("promise 12: the counter is 0", x.next(t), 1);
        }
        due.is("promise 12: the buffer stays", x.peek(0), Made.LEFT);
    }

    private static void makeRefusals() {
        PinModule x = Made.withKeys();
        due.is("promise 12: terminal(-1)", x.terminal(-1, 2, 0), -2);
        due.is("promise 12: terminal(8)", x.terminal(8, 2, 0), -2);
        due.is("promise 12: slot -1", x.terminal(0, -1, 0), -2);
        due.is("promise 12: slot 16", x.terminal(0, 16, 0), -2);
        due.is("promise 12: serial -1", x.terminal(0, 2, -1), -2);
        due.is("promise 12: serial 2^43", x.terminal(0, 2, 1L << 43), -2);
        due.is("promise 12: serial, least of all", x.terminal(0, 2, Long.MIN_VALUE), -2);
        due.is("promise 12: slot that is empty", x.terminal(0, 8, 0), -3);
        for (int slot : new int[] {0, 1, 3, 4, 5, 7}) {
            due.is("promise 12: another usage, slot " + slot, x.terminal(0, slot, 0), -4);
        }
        due.is("promise 12: a refused one is not made", x.next(0), -3);
        due.is("promise 12: terminal", x.terminal(0, 6, 0), 0);
        due.is("promise 12: -3 comes before -4", x.terminal(0, 0, 0), -3);
        due.is("promise 12: -2 comes before -3", x.terminal(0, 8, -1), -2);
        x.next(0);
        due.is("promise 12: -3 for one that is", x.terminal(0, 2, 9), -3);
        due.is("promise 12: which changes nothing", x.next(0), 2);
    }

    private static boolean allowed(int counter) {
        return Integer.bitCount(counter) <= 10;
    }

    private static void counts() {
        PinModule x = withBase();
        x.terminal(0, 2, SERIAL);
        x.terminal(1, 2, SERIAL);
        x.skip(0, 0x7f0);
        int want = 0x7f0;
        for (int i = 0; i < 200; i++) {
            do {
                want++;
            } while (!allowed(want));
            due.is("promise 13: next(0) after " + i, x.next(0), want);
        }
        due.is("promise 13: another terminal stays", x.next(1), 1);
        due.is("promise 13: next(-1)", x.next(-1), -2);
        due.is("promise 13: next(8)", x.next(8), -2);
        due.is("promise 13: next(2), which is none", x.next(2), -3);
    }

    private static void skips() {
        PinModule x = withBase();
        x.terminal(0, 2, SERIAL);
        due.is("promise 14: skip(0, 1)", x.skip(0, 1), 1);
        due.is("promise 14: skip(0, 1) again", x.skip(0, 1), 1);
        for (int number = 5; number < 1 << 21; number += 20011) {
            int want = number;
            while (!allowed(want)) {
                want++;
            }
            due.is("promise 14: skip(0, " + number + ")", x.skip(0, number), want < 1 << 21 ? want : -7);
        }
        PinModule y = withBase();
        y.terminal(3, 2, 0);
        due.is("promise 14: skip(3, 2047)", y.skip(3, 2047), 2048);
        due.is("promise 14: to less than it is", y.skip(3, 1023), -7);
        due.is("promise 14: to one less than it is", y.skip(3, 2046), -7);
        due.is("promise 14: a number whose next one is where it is", y.skip(3, 2047), 2048);
        due.is("promise 14: a refused one changes nothing", y.next(3), 2049);
        for (int number : new int[] {0, -1, 1 << 21, Integer.MIN_VALUE, Integer.MAX_VALUE}) {
            due.is("promise 14: skip(3, " + number + ")", y.skip(3, number), -2);
            due.is("promise 14: -2 comes before -3, " + number, y.skip(4, number), -2);
        }
        due.is("promise 14: skip(-1, 1)", y.skip(-1, 1), -2);
        due.is("promise 14: skip(8, 1)", y.skip(8, 1), -2);
        due.is("promise 14: skip(4, 1), which is none", y.skip(4, 1), -3);
    }

    private static void exhausted() {
        PinModule x = withBase();
        x.terminal(0, 2, SERIAL);
        due.is("promise 14: none is at or above", x.skip(0, 0x1ff801), -7);
        due.is("promise 14: nor there", x.skip(0, (1 << 21) - 1), -7);
        due.is("promise 14: the last", x.skip(0, 0x1ff7ff), 0x1ff800);
        int value = x.check(16);
        due.is("promise 15: the last key", value, checkValue(SERIAL, 0x1ff800));
        for (int i = 0; i < 3; i++) {
            due.is("promise 13: -7 for ever", x.next(0), -7);
        }
        due.is("promise 13: a refused one changes nothing", x.check(16), value);
        due.is("promise 14: it may be the one it is", x.skip(0, 0x1ff800), 0x1ff800);
        due.is("promise 16: its key is there still", x.pin(16, 4, 0, 0x1234, 0), 0);
        due.is("promise 14: none above", x.skip(0, 0x1ff801), -7);
    }

    /** Keys of many counters of several serials, by the document's words and the library's DES. */
    private static void derives() {
        java.util.Random random = new java.util.Random(924);
        for (int i = 0; i < 40; i++) {
            PinModule x = withBase();
            long serial = random.nextLong() & GREATEST;
            x.terminal(5, 2, serial);
            int counter = x.skip(5, 1 + random.nextInt(0x1ff800));
            due.is("promise 15: counter " + counter + " of serial " + serial, x.check(21), checkValue(serial, counter));
        }
    }

    private static int checkValue(long serial, int counter) {
        long front = 0xffffL << 48 | serial << 5;
        long left = Jce.sealed(Made.LEFT, Made.RIGHT, front);
        long right = Jce.sealed(Made.LEFT ^ VARIANT, Made.RIGHT ^ VARIANT, front);
        long register = serial * (1L << 21);
        for (int bit = 1 << 20; bit > 0; bit /= 2) {
            if ((counter & bit) != 0) {
                register += bit;
                long newRight = Jce.des(left, register ^ right) ^ right;
                left = Jce.des(left ^ VARIANT, register ^ right ^ VARIANT) ^ right ^ VARIANT;
                right = newRight;
            }
        }
        return Jce.checkValue(left, right);
    }

    private static void checkRefusals() {
        PinModule x = withBase();
        due.is("promise 15: check(-1)", x.check(-1), -2);
        due.is("promise 15: check(24)", x.check(24), -2);
        due.is("promise 15: check of an empty slot", x.check(15), -3);
        due.is("promise 15: check of no terminal", x.check(16), -3);
        due.is("promise 15: check of no terminal", x.check(23), -3);
        due.is("promise 15: check of a slot", x.check(2), Jce.checkValue(Made.LEFT, Made.RIGHT));
    }
}
