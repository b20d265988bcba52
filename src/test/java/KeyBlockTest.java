/** Promises 10 and 11: wrap, unwrap. */
public final class KeyBlockTest {
    private static final Due due = new Due("key blocks");
    private static final long LEFT = Parity.odd(0x1122334455667788L);
    private static final long RIGHT = Parity.odd(0x99aabbccddeeff00L);
    private static final long CHANGE = 0x4d4d4d4d4d4d4d4dL;

    public static void main(String[] args) {
        wraps();
        wrapRefusals();
        unwraps();
        otherModule();
        wrongCodes();
        wrongHeaders();
        wrongContents();
        unwrapRefusals();
        due.end();
    }

    private static long header(String text) {
        long header = 0;
        for (int i = 0; i < 8; i++) {
            header = header << 8 | text.charAt(i);
        }
        return header;
    }

    /** The block of a header and three longs to be sealed, with its right code. */
    private static long[] block(long header, long first, long second, long third) {
        long[] plain = {header, first, second, third};
        long[] block = {header, 0, 0, 0, 0};
        for (int i = 1; i <= 3; i++) {
            block[i] = Jce.sealed(Made.MASTER_LEFT, Made.MASTER_RIGHT, plain[i] ^ block[i - 1]);
        }
        for (int i = 0; i < 4; i++) {
            block[4] = Jce.sealed(Made.MASTER_LEFT ^ CHANGE, Made.MASTER_RIGHT ^ CHANGE, block[4] ^ block[i]);
        }
        return block;
    }

    private static long[] keyBlock(String header, long left, long right) {
        return block(header(header), 128L << 48 | left >>> 16, left << 48 | right >>> 16, right << 48);
    }

    private static void poke(PinModule x, long[] block) {
        for (int i = 0; i < 5; i++) {
            x.poke(i, block[i]);
        }
    }

    private static void wraps() {
        String letters = "PMBO";
        for (int usage = 0; usage < 4; usage++) {
            PinModule x = Made.sealedModule();
            Made.load(x, 15, usage, true, LEFT, RIGHT);
            due.is("promise 10: wrap(15)", x.wrap(15), 40);
            long[] want = keyBlock("KB" + letters.charAt(usage) + "TC1E\0", LEFT, RIGHT);
            for (int i = 0; i < 5; i++) {
                due.is("promise 10: long " + i + " of usage " + usage, x.peek(i), want[i]);
            }
            due.is("promise 10: the slot stays", x.usage(15), usage);
        }
    }

    private static void wrapRefusals() {
        PinModule x = Made.sealedModule();
        Made.load(x, 0, 0, false, LEFT, RIGHT);
        due.is("promise 10: wrap of what may not be exported", x.wrap(0), -5);
        due.is("promise 10: a refused wrap changes nothing", x.peek(0), LEFT);
        due.is("promise 10: a refused wrap changes nothing", x.peek(4), 0);
        due.is("promise 10: wrap of an empty slot", x.wrap(1), -3);
        due.is("promise 10: wrap(-1)", x.wrap(-1), -2);
        due.is("promise 10: wrap(16)", x.wrap(16), -2);
    }

    private static void unwraps() {
        PinModule x = Made.sealedModule();
        String[] headers = {"KBPTC1E\0", "KBMTC1E\0", "KBBTC1E\0", "KBOTC1E\0"};
        for (int usage = 0; usage < 4; usage++) {
            long[] block = keyBlock(headers[usage], LEFT, RIGHT);
            poke(x, block);
            due.is("promise 11: unwrap(" + usage + ")", x.unwrap(usage), usage);
            due.is("promise 11: usage(" + usage + ")", x.usage(usage), usage);
            due.is("promise 11: check(" + usage + ")", x.check(usage), Jce.checkValue(LEFT, RIGHT));
            for (int i = 0; i < 5; i++) {
                due.is("promise 11: the buffer stays, long " + i, x.peek(i), block[i]);
            }
            due.is("promise 11: it may be exported", x.wrap(usage), 40);
            due.is("promise 11: as the same block", x.peek(4), block[4]);
        }
    }

    private static void otherModule() {
        PinModule x = Made.withKeys();
        x.wrap(3);
        PinModule other = new PinModule();
        for (int half = 0; half < 6; half++) {
            other.component(half / 2, half % 2, 0);
        }
        other.seal();
        for (int i = 0; i < 5; i++) {
            other.poke(i, x.peek(i));
        }
        due.is("promise 11: a block of another master key", other.unwrap(0), -6);
    }

    private static void wrongCodes() {
        for (int k = 0; k < 5; k++) {
            PinModule x = Made.sealedModule();
            long[] block = keyBlock("KBPTC1E\0", LEFT, RIGHT);
            block[k] ^= 1L << 17 * k % 64;
            poke(x, block);
            due.is("promise 11: a bit of long " + k + " changed", x.unwrap(0), -6);
            due.is("promise 11: a refused unwrap changes nothing", x.usage(0), -3);
        }
        PinModule x = Made.sealedModule();
        long[] block = keyBlock("KBPTC1E\0", LEFT, RIGHT);
        block[0] = header("KBMTC1E\0");
        poke(x, block);
        due.is("promise 11: the usage is bound to the block", x.unwrap(0), -6);
    }

    private static void wrongHeaders() {
        String[] headers = {"KBPTC1N\0", "KBPTC1e\0", "KBATC1E\0", "KBpTC1E\0", "KB\0TC1E\0", "KBPTC1E\1", "KBPTC1E0",
            "KBPTC2E\0", "KBPTD1E\0", "KBPUC1E\0", "KCPTC1E\0", "JBPTC1E\0", "\0\0\0\0\0\0\0\0"};
        PinModule x = Made.sealedModule();
        for (String header : headers) {
            poke(x, keyBlock(header, LEFT, RIGHT));
            due.is("promise 11: header " + header.replace("\0", "(0)"), x.unwrap(0), -6);
        }
        due.is("promise 11: a refused unwrap changes nothing", x.usage(0), -3);
    }

    private static void wrongContents() {
        PinModule x = Made.sealedModule();
        long header = header("KBPTC1E\0");
        long first = 128L << 48 | LEFT >>> 16;
        long second = LEFT << 48 | RIGHT >>> 16;
        long third = RIGHT << 48;
        long[][] blocks = {
            block(header, 127L << 48 | LEFT >>> 16, second, third),
            block(header, 0x8080L << 48 | LEFT >>> 16, second, third),
            block(header, 0x8000L << 48 | LEFT >>> 16, second, third),
            block(header, first, second, third | 1),
            block(header, first, second, third | 1L << 47),
            block(header, first ^ 1, second, third),
            block(header, first ^ 1L << 47, second, third),
            block(header, first, second ^ 1L << 48, third),
            block(header, first, second ^ 1, third),
            block(header, first, second, third ^ 1L << 48),
        };
        for (int i = 0; i < blocks.length; i++) {
            poke(x, blocks[i]);
            due.is("promise 11: wrong content " + i, x.unwrap(0), -6);
        }
        due.is("promise 11: a refused unwrap changes nothing", x.usage(0), -3);
        poke(x, block(header, first, second, third));
        due.is("promise 11: the right content", x.unwrap(0), 0);
    }

    private static void unwrapRefusals() {
        PinModule x = Made.withKeys();
        due.is("promise 11: unwrap(-1)", x.unwrap(-1), -2);
        due.is("promise 11: unwrap(16)", x.unwrap(16), -2);
        due.is("promise 11: -3 comes before -6", x.unwrap(0), -3);
        due.is("promise 11: a block of zeros", x.unwrap(8), -6);
        x.wrap(1);
        due.is("promise 11: unwrap to a filled slot", x.unwrap(0), -3);
        due.is("promise 11: a refused unwrap changes nothing", x.usage(0), 0);
    }
}
