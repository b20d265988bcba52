/** Modules in states that many tests begin with. */
final class Made {
    static final long LEFT = 0x0123456789abcdefL;
    static final long RIGHT = 0xfedcba9876543210L;
    static final long MASTER_LEFT = 0x1cb5a84fd3e6710bL;
    static final long MASTER_RIGHT = 0x2a5e68c1fb70941fL;

    private Made() {
    }

    /** Sealed, with nothing in its slots; the master key is MASTER_LEFT and MASTER_RIGHT. */
    static PinModule sealedModule() {
        PinModule x = new PinModule();
        x.component(0, 0, MASTER_LEFT);
        x.component(0, 1, MASTER_RIGHT);
        x.component(1, 0, 0x5555555555555555L);
        x.component(1, 1, 0x0123012301230123L);
        x.component(2, 0, 0x5555555555555555L);
        x.component(2, 1, 0x0123012301230123L);
        x.seal();
        return x;
    }

    /** Slot s has the key LEFT and RIGHT changed in one byte by s, its usage is s % 4, for s 0 to 7. */
    static PinModule withKeys() {
        PinModule x = sealedModule();
        for (int s = 0; s < 8; s++) {
            load(x, s, s % 4, true, keyLeft(s), RIGHT);
        }
        x.poke(0, 0);
        x.poke(1, 0);
        return x;
    }

    /** The left half of slot s of withKeys(), parity odd. */
    static long keyLeft(int s) {
        return Parity.odd(LEFT ^ (long) s << 9);
    }

    static int load(PinModule x, int slot, int usage, boolean exports, long left, long right) {
        x.poke(0, left);
        x.poke(1, right);
        return x.load(slot, usage, exports);
    }
}
