/** Promises 10 and 11: wrap, unwrap; and WRAP of the Terms. */
public final class KeyBlockTest {
    private static final Due due = new Due("key blocks");
    private static final String[] HEADERS = {"KBPTC1E\0", "KBMTC1E\0", "KBBTC1E\0", "KBOTC1E\0"};
    private static final long LEFT = Parity.odd(0x1122334455667788L);
    private static final long RIGHT = Parity.odd(0x99aabbccddeeff00L);
    private static final long CHANGE = 0x4d4d4d4d4d4d4d4dL;
    private static final long FIRST = 128L << 48 | LEFT >>> 16;
    private static final long SECOND = LEFT << 48 | RIGHT >>> 16;
    private static final long THIRD = RIGHT << 48;

    public static void main(String[] args) {
        due.sentence("Promise 10: Wraps to the buffer: 40", KeyBlockTest::wraps);
        due.sentence("Terms: 128 (2 bytes), the key, six bytes 0", KeyBlockTest::contents);
        due.sentence("Terms: a block of those that may not is never made", KeyBlockTest::neverMade);
        due.sentence("Promise 10: or a refusal", KeyBlockTest::wrapRefusals);
        due.sentence("Promise 11: Unwraps the buffer: the usage", KeyBlockTest::unwraps);
        due.sentence("Terms: the code must be right", KeyBlockTest::codes);
        due.sentence("Terms: with the master key whose bytes all have 77 added", KeyBlockTest::codeKey);
        due.sentence("Terms: then the header: a usage's letter", KeyBlockTest::letters);
        due.sentence("Terms: then the header: 'E'", KeyBlockTest::exportLetters);
        due.sentence("Terms: then the header: all else as told", KeyBlockTest::otherHeaderBytes);
        due.sentence("Terms: then what is opened: 128", KeyBlockTest::keyBits);
        due.sentence("Terms: then what is opened: six bytes 0", KeyBlockTest::zeros);
        due.sentence("Terms: then what is opened: odd parity", KeyBlockTest::parity);
        due.sentence("Terms: to an empty slot", KeyBlockTest::toEmptySlot);
        due.sentence("Terms: as it was (so it may be exported)", KeyBlockTest::asItWas);
        due.end();
    }

    private static long header(String text) {
        long header = 0;
        for (int i = 0; i < 8; i++) {
            header = header << 8 | text.charAt(i);
        }
        return header;
    }

    /** The block of a header and three longs to be sealed, with its right code. */
    private static long[] block(long header, long first, long second, long third) {
        long[] plain = {header, first, second, third};
        long[] block = {header, 0, 0, 0, 0};
        for (int i = 1; i <= 3; i++) {
            block[i] = Jce.sealed(Made.MASTER_LEFT, Made.MASTER_RIGHT, plain[i] ^ block[i - 1]);
        }
        block[4] = code(block, CHANGE);
        return block;
    }

    private static long code(long[] block, long change) {
        long code = 0;
        for (int i = 0; i < 4; i++) {
            code = Jce.sealed(Made.MASTER_LEFT ^ change, Made.MASTER_RIGHT ^ change, code ^ block[i]);
        }
        return code;
    }

    private static long[] keyBlock(String header) {
        return block(header(header), FIRST, SECOND, THIRD);
    }

    /** What a new module says to a block; a refused one leaves the slot empty. */
    private static void unwrapIs(String what, long[] block, int want) {
        PinModule x = Made.sealedModule();
        poke(x, block);
        due.is("unwrap of " + what.replace("\0", "(0)"), x.unwrap(0), want);
        due.is("usage(0) after " + what.replace("\0", "(0)"), x.usage(0), want < 0 ? -3 : want);
    }

    private static void poke(PinModule x, long[] block) {
        for (int i = 0; i < 5; i++) {
            x.poke(i, block[i]);
        }
    }

    private static void wraps() {
        for (int usage = 0; usage < 4; usage++) {
            PinModule x = Made.sealedModule();
            Made.load(x, 15, usage, true, LEFT, RIGHT);
            due.is("wrap(15)", x.wrap(15), 40);
            long[] want = keyBlock(HEADERS[usage]);
            for (int i = 0; i < 5; i++) {
                due.is("long " + i + " of usage " + usage, x.peek(i), want[i]);
            }
            due.is("the slot stays", x.usage(15), usage);
        }
    }

    /** Keys whose bytes are the least and the greatest of odd parity, and ones with the highest bit. */
    private static void contents() {
        long[] halves = {0x0101010101010101L, 0xfefefefefefefefeL, 0x8080808080808080L, 0x7f7f7f7f7f7f7f7fL};
        for (long left : halves) {
            for (long right : halves) {
                PinModule x = Made.sealedModule();
                Made.load(x, 0, 0, true, left, right);
                x.wrap(0);
                String opened = "";
                for (int i = 1; i <= 3; i++) {
                    opened += Hex.of(Jce.opened(Made.MASTER_LEFT, Made.MASTER_RIGHT, x.peek(i)) ^ x.peek(i - 1));
                }
                due.holds("what is sealed of " + Hex.of(left) + " " + Hex.of(right) + ": " + opened,
                        opened.equals("0080" + Hex.of(left) + Hex.of(right) + "000000000000"));
                due.is("unwrap of it", x.unwrap(1), 0);
                due.is("the same key", x.check(1), Jce.checkValue(left, right));
            }
        }
    }

    /** Whatever the usage: -5, and the buffer is as it was. */
    private static void neverMade() {
        for (int usage = 0; usage < 4; usage++) {
            PinModule x = Made.sealedModule();
            Made.load(x, 0, usage, false, LEFT, RIGHT);
            Made.load(x, 1, usage, true, LEFT, RIGHT);
            due.is("wrap(0), may not be exported", x.wrap(0), -5);
            due.is("long 0 stays", x.peek(0), LEFT);
            due.is("long 4 stays", x.peek(4), 0);
            due.is("wrap(1), may be exported", x.wrap(1), 40);
            due.is("its header", x.peek(0), header(HEADERS[usage]));
        }
    }

    private static void wrapRefusals() {
        PinModule x = Made.sealedModule();
        for (int slot : new int[] {-1, 16}) {
            due.is("wrap(" + slot + ")", x.wrap(slot), -2);
        }
        for (int slot : new int[] {0, 15}) {
            due.is("wrap(" + slot + ") of an empty slot", x.wrap(slot), -3);
            Made.load(x, slot, 0, true, LEFT, RIGHT);
            due.is("wrap(" + slot + ") of a filled slot", x.wrap(slot), 40);
        }
    }

    private static void unwraps() {
        for (int usage = 0; usage < 4; usage++) {
            for (int slot : new int[] {0, 15}) {
                PinModule x = Made.sealedModule();
                poke(x, keyBlock(HEADERS[usage]));
                due.is("unwrap(" + slot + ")", x.unwrap(slot), usage);
                due.is("usage(" + slot + ")", x.usage(slot), usage);
                due.is("check(" + slot + ")", x.check(slot), Jce.checkValue(LEFT, RIGHT));
            }
        }
    }

    /** Each bit of the block changed makes the code wrong. */
    private static void codes() {
        unwrapIs("the right block", keyBlock(HEADERS[0]), 0);
        for (int k = 0; k < 5; k++) {
            for (int bit = 0; bit < 64; bit++) {
                long[] block = keyBlock(HEADERS[0]);
                block[k] ^= 1L << bit;
                unwrapIs("bit " + bit + " of long " + k + " changed", block, -6);
            }
        }
        long[] block = keyBlock(HEADERS[0]);
        block[0] = header(HEADERS[1]);
        unwrapIs("a PIN key's block with a MAC key's header", block, -6);
        unwrapIs("zeros", new long[5], -6);
    }

    /** A code that another change of the master key made is wrong, and so is a block of another master key. */
    private static void codeKey() {
        for (int change : new int[] {76, 77, 78, 0}) {
            long[] block = keyBlock(HEADERS[2]);
            // DES does not look at a byte's lowest bit, so 76 and 77 are the same to it
            block[4] = code(block, change * 0x0101010101010101L);
            unwrapIs("a code with " + change + " added", block, change == 77 || change == 76 ? 2 : -6);
        }
        PinModule other = new PinModule();
        for (int half = 0; half < 6; half++) {
            other.component(half / 2, half % 2, 0);
        }
        other.seal();
        poke(other, keyBlock(HEADERS[2]));
        due.is("unwrap with another master key", other.unwrap(0), -6);
    }

    /** All bytes that could stand for the usage, each with its right code. */
    private static void letters() {
        for (int letter = 0; letter < 256; letter++) {
            String header = "KB" + (char) letter + "TC1E\0";
            int usage = "PMBO".indexOf(letter);
            unwrapIs(header, keyBlock(header), usage < 0 ? -6 : usage);
        }
    }

    private static void exportLetters() {
        for (int letter = 0; letter < 256; letter++) {
            String header = "KBPTC1" + (char) letter + "\0";
            unwrapIs(header, keyBlock(header), letter == 'E' ? 0 : -6);
        }
    }

    /** Each of the other bytes one less, one more, and with its highest bit changed. */
    private static void otherHeaderBytes() {
        for (String header : HEADERS) {
            for (int i : new int[] {0, 1, 3, 4, 5, 7}) {
                char right = header.charAt(i);
                for (int other : new int[] {right - 1 & 255, right + 1, right ^ 128}) {
                    String wrong = header.substring(0, i) + (char) other + header.substring(i + 1);
                    unwrapIs(wrong, keyBlock(wrong), -6);
                }
            }
        }
    }

    private static void keyBits() {
        for (int bits : new int[] {0, 127, 128, 129, 0x8000, 0x8080, 0x0180, 0xffff}) {
            long[] block = block(header(HEADERS[3]), (long) bits << 48 | LEFT >>> 16, SECOND, THIRD);
            unwrapIs("a block that tells " + bits + " bits", block, bits == 128 ? 3 : -6);
        }
    }

    private static void zeros() {
        unwrapIs("zeros behind the key", block(header(HEADERS[1]), FIRST, SECOND, THIRD), 1);
        for (int bit = 0; bit < 48; bit++) {
            unwrapIs("bit " + bit + " behind the key", block(header(HEADERS[1]), FIRST, SECOND, THIRD | 1L << bit), -6);
        }
    }

    /** Each bit of the key changed makes one byte even; two bits of a byte changed leave it odd. */
    private static void parity() {
        for (int bit = 0; bit < 64; bit++) {
            unwrapIs("bit " + bit + " of L changed", blockOf(LEFT ^ 1L << bit, RIGHT), -6);
            unwrapIs("bit " + bit + " of R changed", blockOf(LEFT, RIGHT ^ 1L << bit), -6);
        }
        for (int shift = 0; shift < 64; shift += 8) {
            unwrapIs("two bits at " + shift + " of L changed", blockOf(LEFT ^ 3L << shift, RIGHT), 0);
            unwrapIs("two bits at " + shift + " of R changed", blockOf(LEFT, RIGHT ^ 0x81L << shift), 0);
        }
    }

    private static long[] blockOf(long left, long right) {
        return block(header(HEADERS[0]), 128L << 48 | left >>> 16, left << 48 | right >>> 16, right << 48);
    }

    private static void toEmptySlot() {
        PinModule x = Made.withKeys();
        x.wrap(1);
        for (int slot = 0; slot < 8; slot++) {
            due.is("unwrap(" + slot + ") to a filled slot", x.unwrap(slot), -3);
            due.is("its usage is as it was", x.usage(slot), slot % 4);
        }
        due.is("unwrap(8) to an empty slot", x.unwrap(8), 1);
        due.is("unwrap(8) again", x.unwrap(8), -3);
        x.clear(8);
        due.is("unwrap(8) to an emptied slot", x.unwrap(8), 1);
        due.is("unwrap(-1)", x.unwrap(-1), -2);
        due.is("unwrap(16)", x.unwrap(16), -2);
    }

    private static void asItWas() {
        PinModule x = Made.sealedModule();
        for (int usage = 0; usage < 4; usage++) {
            long[] block = keyBlock(HEADERS[usage]);
            poke(x, block);
            x.unwrap(usage);
            poke(x, new long[5]);
            due.is("wrap(" + usage + ") of what was unwrapped", x.wrap(usage), 40);
            for (int i = 0; i < 5; i++) {
                due.is("the same long " + i, x.peek(i), block[i]);
            }
        }
    }
}
