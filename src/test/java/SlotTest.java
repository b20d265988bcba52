/** Promises 7 to 9: load, clear, usage; and promise 15 of slots. */
public final class SlotTest {
    private static final Due due = new Due("slots");

    public static void main(String[] args) {
        loads();
        parity();
        refusals();
        clears();
        clearedBase();
        desAgainstLibrary();
        due.end();
    }

    private static void loads() {
        PinModule x = Made.sealedModule();
        for (int s = 0; s < 16; s++) {
            long left = Made.LEFT * (s + 1);
            long right = Made.RIGHT ^ s * 0x1020408L;
            int value = Jce.checkValue(left, right);
            due.is("promise 7: load(" + s + ")", Made.load(x, s, s % 4, s % 2 == 0, left, right), value);
            due.is("promise 7: the buffer stays", x.peek(0), left);
            due.is("promise 7: the buffer stays", x.peek(1), right);
        }
        for (int s = 0; s < 16; s++) {
            due.is("promise 9: usage(" + s + ")", x.usage(s), s % 4);
            due.is("promise 15: check(" + s + ")", x.check(s),
                    Jce.checkValue(Made.LEFT * (s + 1), Made.RIGHT ^ s * 0x1020408L));
            due.is("promise 7: may be exported, slot " + s, x.wrap(s), s % 2 == 0 ? 40 : -5);
        }
    }

    /** A key block of a key whose parity was made odd is opened to it. */
    private static void parity() {
        PinModule x = Made.sealedModule();
        Made.load(x, 0, 0, true, 0x0001020304050607L, 0xfffefdfcfbfaf9f8L);
        x.wrap(0);
        long first = Jce.opened(Made.MASTER_LEFT, Made.MASTER_RIGHT, x.peek(1)) ^ x.peek(0);
        long second = Jce.opened(Made.MASTER_LEFT, Made.MASTER_RIGHT, x.peek(2)) ^ x.peek(1);
        long third = Jce.opened(Made.MASTER_LEFT, Made.MASTER_RIGHT, x.peek(3)) ^ x.peek(2);
        due.is("promise 7: L is of odd parity", first << 16 | second >>> 48, 0x0101020204040707L);
        due.is("promise 7: R is of odd parity", second << 16 | third >>> 48, 0xfefefdfdfbfbf8f8L);
        due.is("promise 11: such a block is taken", x.unwrap(1), 0);
    }

    private static void refusals() {
        PinModule x = Made.withKeys();
        for (int s : new int[] {-1, 16, Integer.MIN_VALUE, Integer.MAX_VALUE}) {
            due.is("promise 7: load(" + s + ")", x.load(s, 0, true), -2);
            due.is("promise 8: clear(" + s + ")", x.clear(s), -2);
            due.is("promise 9: usage(" + s + ")", x.usage(s), -2);
        }
        for (int u : new int[] {-1, 4, Integer.MIN_VALUE, Integer.MAX_VALUE}) {
            due.is("promise 7: load of usage " + u, x.load(9, u, true), -2);
            due.is("promise 7: -2 comes before -3, usage " + u, x.load(0, u, true), -2);
        }
        due.is("promise 7: load to a filled slot", x.load(1, 3, true), -3);
        due.is("promise 7: a refused load changes nothing", x.usage(1), 1);
        due.is("promise 7: a refused load changes nothing", x.check(1), Jce.checkValue(Made.keyLeft(1), Made.RIGHT));
        due.is("promise 9: usage of an empty slot", x.usage(8), -3);
    }

    private static void clears() {
        PinModule x = Made.withKeys();
        due.is("promise 8: clear(3)", x.clear(3), 0);
        due.is("promise 8: clear(3) again", x.clear(3), -3);
        due.is("promise 8: usage(3) then", x.usage(3), -3);
        due.is("promise 8: check(3) then", x.check(3), -3);
        due.is("promise 8: another stays", x.usage(2), 2);
        due.is("promise 8: load(3) then", Made.load(x, 3, 1, false, 5, 6), Jce.checkValue(5, 6));
        due.is("promise 8: with another usage", x.usage(3), 1);
        due.is("promise 8: and not to be exported", x.wrap(3), -5);
        due.is("promise 8: clear(8), which is empty", x.clear(8), -3);
    }

    private static void clearedBase() {
        PinModule x = Made.withKeys();
        x.terminal(0, 2, 12345);
        x.next(0);
        int value = x.check(16);
        due.is("promise 8: clear of a terminal's base", x.clear(2), 0);
        due.is("promise 8: the terminal stays", x.check(16), value);
        due.is("promise 8: and goes on", x.next(0), 2);
        Made.load(x, 2, 2, true, 7, 8);
        x.terminal(1, 2, 12345);
        x.skip(1, 2);
        due.holds("promise 8: with the key that the slot had", x.check(16) != x.check(17));
    }

    /** The check values of many keys, whatever their parity. */
    private static void desAgainstLibrary() {
        java.util.Random random = new java.util.Random(46);
        PinModule x = Made.sealedModule();
        for (int i = 0; i < 100; i++) {
            long left = random.nextLong();
            long right = random.nextLong();
            due.is("promise 7: check value " + i, Made.load(x, 5, 0, true, left, right), Jce.checkValue(left, right));
            x.clear(5);
        }
        due.is("promise 7: the key 0", Made.load(x, 5, 0, true, 0, 0), Jce.checkValue(0, 0));
    }
}
