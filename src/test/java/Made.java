/** Modules in states that many tests begin with. */
final class Made {
    static final long LEFT = 0x0123456789abcdefL;
    static final long RIGHT = 0xfedcba9876543210L;
    static final long MASTER_LEFT = 0x1cb5a84fd3e6710bL;
    static final long MASTER_RIGHT = 0x2a5e68c1fb70941fL;
    static final long ACCOUNT = 0x4987654321098765L;
    /** Bits 20 to 11: no greater number of 21 bits has at most ten bits 1. */
    static final int LAST_COUNTER = 0x1ff800;

    private Made() {
    }

    /** All halves are told, so that seal() is all that lacks; the master key will be MASTER_LEFT and MASTER_RIGHT. */
    static PinModule toldModule() {
        PinModule x = new PinModule();
        x.component(0, 0, MASTER_LEFT);
        x.component(0, 1, MASTER_RIGHT);
        x.component(1, 0, 0x5555555555555555L);
        x.component(1, 1, 0x0123012301230123L);
        x.component(2, 0, 0x5555555555555555L);
        x.component(2, 1, 0x0123012301230123L);
        return x;
    }

    /** Sealed, with nothing in its slots. */
    static PinModule sealedModule() {
        PinModule x = toldModule();
        x.seal();
        return x;
    }

    /** Slot s has the key LEFT and RIGHT changed in one byte by s, its usage is s % 4, for s 0 to 7. */
    static PinModule withKeys() {
        PinModule x = sealedModule();
        for (int s = 0; s < 8; s++) {
            load(x, s, s % 4, true, keyLeft(s), RIGHT);
        }
        x.poke(0, 0);
        x.poke(1, 0);
        return x;
    }

    /**
     * As withKeys(), and: slot 8 has a PIN key that may not be exported, slot 9 had one; terminal 0 has the counter
     * 0, terminal 1 has 1000, terminal 2 is exhausted, the others are none; the message is told; long 0 of the buffer
     * is a block of the PIN 1234 of ACCOUNT, of format 0 under slot 0, and longs 1 to 4 are 71 to 74.
     */
    static PinModule inUse() {
        PinModule x = withKeys();
        load(x, 8, 0, false, LEFT, LEFT);
        load(x, 9, 0, false, RIGHT, LEFT);
        x.clear(9);
        for (int t = 0; t < 3; t++) {
            x.terminal(t, 2, 500 + t);
        }
        x.skip(1, 1000);
        x.skip(2, LAST_COUNTER);
        for (int k = 0; k < 8; k++) {
            x.message(k, LEFT * (k + 3));
        }
        x.pin(0, 4, ACCOUNT, 0x1234, 0);
        for (int k = 1; k < 5; k++) {
            x.poke(k, 70 + k);
        }
        return x;
    }

    /** The left half of slot s of withKeys(), parity odd. */
    static long keyLeft(int s) {
        return Parity.odd(LEFT ^ (long) s << 9);
    }

    static int load(PinModule x, int slot, int usage, boolean exports, long left, long right) {
        x.poke(0, left);
        x.poke(1, right);
        return x.load(slot, usage, exports);
    }

    /** Slot 0 or 4 of withKeys() seals a long to the buffer, a PIN block or not. */
    static void putSealed(PinModule x, int slot, long plain) {
        x.poke(0, Jce.sealed(keyLeft(slot), RIGHT, plain));
    }

    /** What slot s of withKeys() opens the buffer's first long to. */
    static long opened(PinModule x, int slot) {
        return Jce.opened(keyLeft(slot), RIGHT, x.peek(0));
    }
}
