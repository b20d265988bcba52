/** Promises 4 to 6: poke, peek, message. */
public final class BufferTest {
    private static final Due due = new Due("buffer");

    public static void main(String[] args) {
        pokeAndPeek();
        messages();
        due.end();
    }

    private static void pokeAndPeek() {
        PinModule x = new PinModule();
        for (int k = 0; k < 5; k++) {
            x.poke(k, 1L << 60 - k);
        }
        x.poke(2, -2);
        for (int k = 0; k < 5; k++) {
            due.is("promises 4 and 5: peek(" + k + ")", x.peek(k), k == 2 ? -2 : 1L << 60 - k);
        }
        for (int k : new int[] {-1, 5, Integer.MIN_VALUE, Integer.MAX_VALUE}) {
            due.refusesArgument("promise 4: poke(" + k + ")", () -> x.poke(k, 0));
            due.refusesArgument("promise 5: peek(" + k + ")", () -> x.peek(k));
        }
        PinModule sealed = Made.sealedModule();
        sealed.poke(4, 44);
        due.is("promise 5: peek(4) when sealed", sealed.peek(4), 44);
    }

    /** The bytes of a message are seen by its code alone. */
    private static void messages() {
        PinModule x = new PinModule();
        for (int k = 0; k < 8; k++) {
            x.message(k, 99);
        }
        for (int k = 0; k < 8; k++) {
            x.message(k, 0x0101010101010101L * (k + 1));
        }
        for (int k : new int[] {-1, 8, Integer.MIN_VALUE, Integer.MAX_VALUE}) {
            due.refusesArgument("promise 6: message(" + k + ")", () -> x.message(k, 0));
        }
        for (int half = 0; half < 6; half++) {
            x.component(half / 2, half % 2, half);
        }
        x.seal();
        Made.load(x, 0, 1, false, Made.LEFT, Made.RIGHT);
        x.code(0, 64);
        long chained = 0;
        for (int k = 0; k < 8; k++) {
            chained = Jce.des(Made.LEFT, chained ^ 0x0101010101010101L * (k + 1));
        }
        chained = Jce.des(Made.LEFT, chained ^ 0x80L << 56);
        due.is("promise 6: the code of eight longs told before it was sealed", x.peek(0),
                Jce.des(Made.LEFT, Jce.undes(Made.RIGHT, chained)));
        due.is("promise 6: it is not the buffer", x.peek(1), Made.RIGHT);
    }
}
