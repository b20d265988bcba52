/** Promises 7 to 9: load, clear, usage; and KEYS and SLOTS of the Terms. */
public final class SlotTest {
    private static final Due due = new Due("slots");

    public static void main(String[] args) {
        due.sentence("Terms: SLOTS 0 .. 15", SlotTest::slotNumbers);
        due.sentence("Terms: a USAGE 0 PIN, 1 MAC, 2 BASE, 3 OFFSET", SlotTest::usageNumbers);
        due.sentence("Terms: and may be exported or not", SlotTest::exported);
        due.sentence("Terms: a byte's PARITY is made odd by its lowest bit", SlotTest::parity);
        due.sentence("Terms: DES is FIPS 46-3's", SlotTest::desAgainstLibrary);
        due.sentence("Promise 7: Loads a key, of longs 0 and 1 of the buffer: its check value", SlotTest::loads);
        due.sentence("Terms: -3 where one is filled, not empty (load)", SlotTest::loadToFilled);
        due.sentence("Promise 8: A slot is empty then: 0, or a refusal (-3 it is)", SlotTest::clears);
        due.sentence("Promise 8: Terminals that were made of it stay, with its key", SlotTest::clearedBase);
        due.sentence("Promise 9: Of a slot: its usage, or a refusal", SlotTest::usages);
        due.end();
    }

    private static void slotNumbers() {
        PinModule x = Made.sealedModule();
        Made.load(x, 2, 2, true, 1, 2);
        for (int s : new int[] {-1, 16, Integer.MIN_VALUE, Integer.MAX_VALUE}) {
            due.is("load(" + s + ")", x.load(s, 0, true), -2);
            due.is("clear(" + s + ")", x.clear(s), -2);
            due.is("usage(" + s + ")", x.usage(s), -2);
            due.is("wrap(" + s + ")", x.wrap(s), -2);
            due.is("unwrap(" + s + ")", x.unwrap(s), -2);
            due.is("terminal(0, " + s + ")", x.terminal(0, s, 0), -2);
            due.is("code(" + s + ", 0)", x.code(s, 0), -2);
        }
        for (int s : new int[] {0, 15}) {
            due.is("clear(" + s + ")", x.clear(s), -3);
            due.is("usage(" + s + ")", x.usage(s), -3);
            due.is("wrap(" + s + ")", x.wrap(s), -3);
            due.is("unwrap(" + s + ")", x.unwrap(s), -6);
            due.is("terminal(0, " + s + ")", x.terminal(0, s, 0), -3);
            due.is("code(" + s + ", 0)", x.code(s, 0), -3);
            due.is("load(" + s + ")", x.load(s, 0, true), Jce.checkValue(1, 2));
        }
    }

    private static void usageNumbers() {
        PinModule x = Made.sealedModule();
        for (int u : new int[] {-1, 4, Integer.MIN_VALUE, Integer.MAX_VALUE}) {
            due.is("load of usage " + u, x.load(9, u, true), -2);
        }
        for (int u = 0; u < 4; u++) {
            due.is("load of usage " + u, x.load(9, u, true), Jce.checkValue(0, 0));
            due.is("usage, " + u, x.usage(9), u);
            due.is("a PIN key's call, usage " + u, x.pin(9, 4, 0, 0, 0), u == 0 ? 0 : -4);
            due.is("a MAC key's call, usage " + u, x.code(9, 0), u == 1 ? 0 : -4);
            due.is("a BASE key's call, usage " + u, x.terminal(0, 9, 0), u == 2 ? 0 : u < 2 ? -4 : -3);
            x.clear(9);
            x.poke(0, 0);
        }
    }

    private static void exported() {
        PinModule x = Made.sealedModule();
        for (int s = 0; s < 16; s++) {
            Made.load(x, s, s % 4, s / 4 % 2 == 0, s, s);
        }
        for (int s = 0; s < 16; s++) {
            due.is("wrap(" + s + ")", x.wrap(s), s / 4 % 2 == 0 ? 40 : -5);
        }
    }

    /** All bytes there are, at each of a key's 16 places: a key block is opened to the key as it was kept. */
    private static void parity() {
        for (int first = 0; first < 256; first += 16) {
            PinModule x = Made.sealedModule();
            for (int turn = 0; turn < 16; turn++) {
                long left = 0;
                long right = 0;
                for (int i = 0; i < 8; i++) {
                    left = left << 8 | first + (i + turn) % 16;
                    right = right << 8 | first + (i + 8 + turn) % 16;
                }
                Made.load(x, 0, 0, true, left, right);
                x.wrap(0);
                long[] kept = keptKey(x);
                due.is("L of " + Hex.of(left), kept[0], Parity.odd(left));
                due.is("R of " + Hex.of(right), kept[1], Parity.odd(right));
                x.clear(0);
            }
        }
        writtenOutParity();
    }

    private static void writtenOutParity() {
        PinModule x = Made.sealedModule();
        Made.load(x, 0, 0, true, 0x0001020304050607L, 0xfffefdfcfb807f81L);
        x.wrap(0);
        long[] kept = keptKey(x);
        due.is("L", kept[0], 0x0101020204040707L);
        due.is("R", kept[1], 0xfefefdfdfb807f80L);
    }

    private static long[] keptKey(PinModule x) {
        long first = Jce.opened(Made.MASTER_LEFT, Made.MASTER_RIGHT, x.peek(1)) ^ x.peek(0);
        long second = Jce.opened(Made.MASTER_LEFT, Made.MASTER_RIGHT, x.peek(2)) ^ x.peek(1);
        long third = Jce.opened(Made.MASTER_LEFT, Made.MASTER_RIGHT, x.peek(3)) ^ x.peek(2);
        return new long[] {first << 16 | second >>> 48, second << 16 | third >>> 48};
    }

    /** The check values of many keys, whatever their parity. */
    private static void desAgainstLibrary() {
        java.util.Random random = new java.util.Random(46);
        PinModule x = Made.sealedModule();
        for (int i = 0; i < 100; i++) {
            long left = random.nextLong();
            long right = random.nextLong();
            due.is("check value " + i, Made.load(x, 5, 0, true, left, right), Jce.checkValue(left, right));
            x.clear(5);
        }
        for (long half : new long[] {0, -1, 0x0101010101010101L, 0xfefefefefefefefeL, 0x1f1f1f1f0e0e0e0eL}) {
            due.is("a key of halves alike, " + Hex.of(half), Made.load(x, 5, 0, true, half, half), Jce.checkValue(half, half));
            x.clear(5);
        }
    }

    private static void loads() {
        PinModule x = Made.sealedModule();
        for (int s = 0; s < 16; s++) {
            x.poke(2, 1000 + s);
            long left = Made.LEFT * (s + 1);
            long right = Made.RIGHT ^ s * 0x1020408L;
            due.is("load(" + s + ")", Made.load(x, s, s % 4, true, left, right), Jce.checkValue(left, right));
        }
        for (int s = 0; s < 16; s++) {
            due.is("check(" + s + ")", x.check(s), Jce.checkValue(Made.LEFT * (s + 1), Made.RIGHT ^ s * 0x1020408L));
        }
    }

    private static void loadToFilled() {
        PinModule x = Made.withKeys();
        for (int s = 0; s < 8; s++) {
            due.is("load(" + s + "), filled", x.load(s, 3, false), -3);
            due.is("its usage is as it was", x.usage(s), s % 4);
            due.is("its key is as it was", x.check(s), Jce.checkValue(Made.keyLeft(s), Made.RIGHT));
            due.is("it may be exported as before", x.wrap(s), 40);
        }
        x.poke(0, 0);
        x.poke(1, 0);
        due.is("load(8), empty", x.load(8, 3, false), Jce.checkValue(0, 0));
        due.is("load(8), filled now", x.load(8, 3, false), -3);
        x.clear(8);
        due.is("load(8), emptied", x.load(8, 3, false), Jce.checkValue(0, 0));
    }

    private static void clears() {
        PinModule x = Made.withKeys();
        due.is("clear(3)", x.clear(3), 0);
        due.is("clear(3) again", x.clear(3), -3);
        due.is("usage(3) then", x.usage(3), -3);
        due.is("check(3) then", x.check(3), -3);
        due.is("wrap(3) then", x.wrap(3), -3);
        due.is("the slot below stays", x.usage(2), 2);
        due.is("the slot above stays", x.usage(4), 0);
        due.is("load(3) then", Made.load(x, 3, 1, false, 5, 6), Jce.checkValue(5, 6));
        due.is("with another usage", x.usage(3), 1);
        due.is("and not to be exported", x.wrap(3), -5);
        due.is("clear of what may not be exported", x.clear(3), 0);
        due.is("clear(8), never filled", x.clear(8), -3);
        x.wrap(1);
        due.is("unwrap to an emptied slot", x.unwrap(3), 1);
        due.is("which may be exported", x.wrap(3), 40);
    }

    private static void clearedBase() {
        PinModule x = Made.withKeys();
        PinModule twin = Made.withKeys();
        x.terminal(0, 2, 12345);
        twin.terminal(0, 2, 12345);
        due.is("clear of a terminal's base", x.clear(2), 0);
        due.is("check(16) then", x.check(16), twin.check(16));
        due.is("next(0) then", x.next(0), 1);
        twin.next(0);
        due.is("the key of its next counter", x.check(16), twin.check(16));
        Made.load(x, 2, 2, true, 7, 8);
        x.skip(0, 5000);
        twin.skip(0, 5000);
        due.is("its key when the slot has another", x.check(16), twin.check(16));
        x.clear(2);
        Made.load(x, 2, 0, true, 7, 8);
        due.is("its key when the slot has another usage", x.check(16), twin.check(16));
        x.pin(16, 4, 0, 0x1234, 0);
        twin.pin(16, 4, 0, 0x1234, 0);
        due.is("its PIN block", x.peek(0), twin.peek(0));
        due.is("it is one still", x.terminal(0, 6, 1), -3);
    }

    private static void usages() {
        PinModule x = Made.sealedModule();
        for (int s = 0; s < 16; s++) {
            due.is("usage(" + s + ") of an empty one", x.usage(s), -3);
            x.load(s, (s + s / 4) % 4, s % 2 == 0);
        }
        for (int s = 0; s < 16; s++) {
            due.is("usage(" + s + ")", x.usage(s), (s + s / 4) % 4);
        }
    }
}
