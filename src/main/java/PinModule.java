/**
 * A cashpoint's security module: a master key of three components, keys in slots with a usage, key
 * blocks that are bound, PIN blocks made, translated and checked, keys of terminals that are new for
 * each transaction, and codes of messages.
 *
 * <p>Every row is made with the object, and no call makes another.
 */
public final class PinModule {
    private static final int NOT_SEALED = -1;
    private static final int BAD_NUMBER = -2;
    private static final int EMPTY_OR_FILLED = -3;
    private static final int OTHER_USAGE = -4;
    private static final int NOT_EXPORTED = -5;
    private static final int WRONG_CONTENT = -6;
    private static final int EXHAUSTED = -7;

    private static final int PIN_USAGE = 0;
    private static final int MAC_USAGE = 1;
    private static final int BASE_USAGE = 2;
    private static final int OFFSET_USAGE = 3;

    private static final int COMPONENTS = 3;
    private static final int BUFFER_LONGS = 5;
    private static final int MESSAGE_LONGS = 8;
    private static final int KEY_BLOCK_BYTES = 40;
    private static final int ACCOUNT_DIGITS = 16;
    private static final int OFFSET_DIGITS = 4;

    /** A terminal's key has its number behind those of the slots. */
    private static final int FIRST_TERMINAL = Slots.COUNT;

    private static final long PIN_KEY_CHANGE = 0xffL;

    private final long[] halves = new long[2 * COMPONENTS];
    private final boolean[] halfTold = new boolean[2 * COMPONENTS];
    private boolean hasMaster;
    private long masterLeft;
    private long masterRight;
    private final Slots slots = new Slots();
    private final Terminals terminals = new Terminals();
    private final Cipher cipher = new Cipher();
    private final long[] buffer = new long[BUFFER_LONGS];
    private final long[] messageLongs = new long[MESSAGE_LONGS];

    /** Not sealed; no components, slots, terminals; the buffer 0. */
    public PinModule() {
    }

    public void component(int n, int half, long value) throws IllegalArgumentException, IllegalStateException {
        if (n < 0 || n >= COMPONENTS || half < 0 || half > 1) {
            throw new IllegalArgumentException("no such component or half");
        }
        if (hasMaster) {
            throw new IllegalStateException("the module is sealed");
        }
        halves[2 * n + half] = value;
        halfTold[2 * n + half] = true;
    }

    public int seal() throws IllegalStateException {
        if (hasMaster || !allHalvesTold()) {
            throw new IllegalStateException("the module is sealed, or halves are missing");
        }
        masterLeft = withOddParity(halves[0] ^ halves[2] ^ halves[4]);
        masterRight = withOddParity(halves[1] ^ halves[3] ^ halves[5]);
        hasMaster = true;
        cipher.take(masterLeft, masterRight);
        return cipher.checkValue();
    }

    public void poke(int k, long value) throws IllegalArgumentException {
        if (k < 0 || k >= BUFFER_LONGS) {
            throw new IllegalArgumentException("no such long of the buffer");
        }
        buffer[k] = value;
    }

    public long peek(int k) throws IllegalArgumentException {
        if (k < 0 || k >= BUFFER_LONGS) {
            throw new IllegalArgumentException("no such long of the buffer");
        }
        return buffer[k];
    }

    public void message(int k, long value) throws IllegalArgumentException {
        if (k < 0 || k >= MESSAGE_LONGS) {
            throw new IllegalArgumentException("no such bytes of the message");
        }
        messageLongs[k] = value;
    }

    public int load(int slot, int usage, boolean exports) {
        if (!hasMaster) {
            return NOT_SEALED;
        }
        if (!Slots.isNumber(slot) || usage < PIN_USAGE || usage > OFFSET_USAGE) {
            return BAD_NUMBER;
        }
        if (slots.filled[slot]) {
            return EMPTY_OR_FILLED;
        }
        slots.fill(slot, usage, exports, withOddParity(buffer[0]), withOddParity(buffer[1]));
        cipher.take(slots.left[slot], slots.right[slot]);
        return cipher.checkValue();
    }

    public int clear(int slot) {
        int refusal = refusalOfSlot(slot);
        if (refusal != 0) {
            return refusal;
        }
        slots.empty(slot);
        return 0;
    }

    public int usage(int slot) {
        int refusal = refusalOfSlot(slot);
        if (refusal != 0) {
            return refusal;
        }
        return slots.usageOf[slot];
    }

    public int wrap(int slot) {
        int refusal = refusalOfSlot(slot);
        if (refusal != 0) {
            return refusal;
        }
        if (!slots.exported[slot]) {
            return NOT_EXPORTED;
        }
        buffer[0] = KeyBlock.header(slots.usageOf[slot]);
        buffer[1] = KeyBlock.firstLong(slots.left[slot]);
        buffer[2] = KeyBlock.secondLong(slots.left[slot], slots.right[slot]);
        buffer[3] = KeyBlock.thirdLong(slots.right[slot]);
        cipher.take(masterLeft, masterRight);
        for (int i = 1; i <= 3; i++) {
            buffer[i] = cipher.sealBlock(buffer[i] ^ buffer[i - 1]);
        }
        buffer[4] = codeOfKeyBlock();
        return KEY_BLOCK_BYTES;
    }

    public int unwrap(int slot) {
        if (!hasMaster) {
            return NOT_SEALED;
        }
        if (!Slots.isNumber(slot)) {
            return BAD_NUMBER;
        }
        if (slots.filled[slot]) {
            return EMPTY_OR_FILLED;
        }
        int usage = KeyBlock.usageOfHeader(buffer[0]);
        if (usage < 0 || buffer[4] != codeOfKeyBlock()) {
            return WRONG_CONTENT;
        }
        cipher.take(masterLeft, masterRight);
        long first = cipher.openBlock(buffer[1]) ^ buffer[0];
        long second = cipher.openBlock(buffer[2]) ^ buffer[1];
        long third = cipher.openBlock(buffer[3]) ^ buffer[2];
        long left = KeyBlock.leftHalf(first, second);
        long right = KeyBlock.rightHalf(second, third);
        if (!KeyBlock.isFramed(first, third) || left != withOddParity(left) || right != withOddParity(right)) {
            return WRONG_CONTENT;
        }
        slots.fill(slot, usage, true, left, right);
        return usage;
    }

    public int terminal(int t, int slot, long serial) {
        if (!hasMaster) {
            return NOT_SEALED;
        }
        if (!Terminals.isNumber(t) || !Slots.isNumber(slot) || !Terminals.isSerial(serial)) {
            return BAD_NUMBER;
        }
        if (terminals.made[t] || !slots.filled[slot]) {
            return EMPTY_OR_FILLED;
        }
        if (slots.usageOf[slot] != BASE_USAGE) {
            return OTHER_USAGE;
        }
        terminals.make(t, serial, slots.left[slot], slots.right[slot], cipher);
        return 0;
    }

    public int next(int t) {
        if (!hasMaster) {
            return NOT_SEALED;
        }
        if (!Terminals.isNumber(t)) {
            return BAD_NUMBER;
        }
        if (!terminals.made[t]) {
            return EMPTY_OR_FILLED;
        }
        return terminals.advance(t, terminals.counter(t) + 1);
    }

    public int skip(int t, int number) {
        if (!hasMaster) {
            return NOT_SEALED;
        }
        if (!Terminals.isNumber(t) || number < 1 || number > Terminals.LAST_COUNTER) {
            return BAD_NUMBER;
        }
        if (!terminals.made[t]) {
            return EMPTY_OR_FILLED;
        }
        return terminals.advance(t, number);
    }

    public int check(int k) {
        if (!hasMaster) {
            return NOT_SEALED;
        }
        if (!isKeyNumber(k)) {
            return BAD_NUMBER;
        }
        if (!hasKey(k)) {
            return EMPTY_OR_FILLED;
        }
        takeKey(k, 0);
        return cipher.checkValue();
    }

    public int pin(int k, int form, long account, long digits, long fill) {
        if (!hasMaster) {
            return NOT_SEALED;
        }
        int format = form >> 4;
        int length = form & 15;
        if (!isKeyNumber(k) || !PinBlock.isFormat(format) || !PinBlock.isLength(length)
                || !areDigits(account, ACCOUNT_DIGITS) || !areDigits(digits, length)
                || !PinBlock.mayFill(format, fill, PinBlock.fillCount(length))) {
            return BAD_NUMBER;
        }
        if (!hasKey(k)) {
            return EMPTY_OR_FILLED;
        }
        if (!isPinKey(k)) {
            return OTHER_USAGE;
        }
        takeKey(k, PIN_KEY_CHANGE);
        buffer[0] = cipher.sealBlock(PinBlock.made(format, account, length, digits, fill));
        return 0;
    }

    public int translate(int from, int to, int forms, long account, long fill) {
        if (!hasMaster) {
            return NOT_SEALED;
        }
        int formatFrom = forms >> 4;
        int formatTo = forms & 15;
        if (!isKeyNumber(from) || !isKeyNumber(to) || !PinBlock.isFormat(formatFrom) || !PinBlock.isFormat(formatTo)
                || !areDigits(account, ACCOUNT_DIGITS)
                || !PinBlock.mayFill(formatTo, fill, PinBlock.fillCount(PinBlock.SHORTEST))) {
            return BAD_NUMBER;
        }
        if (!hasKey(from) || !hasKey(to)) {
            return EMPTY_OR_FILLED;
        }
        if (!isPinKey(from) || !isPinKey(to)) {
            return OTHER_USAGE;
        }
        takeKey(from, PIN_KEY_CHANGE);
        long plain = openedPinBlock(formatFrom, account);
        if (!PinBlock.isOf(formatFrom, plain)) {
            return WRONG_CONTENT;
        }
        int length = PinBlock.lengthOf(plain);
        takeKey(to, PIN_KEY_CHANGE);
        buffer[0] = cipher.sealBlock(PinBlock.made(formatTo, account, length, PinBlock.digitsOf(plain, length), fill));
        return length;
    }

    public int verify(int k, int how, long account, int offset) {
        if (!hasMaster) {
            return NOT_SEALED;
        }
        int slot = how >> 4;
        int format = how & 15;
        if (!isKeyNumber(k) || !Slots.isNumber(slot) || !PinBlock.isFormat(format)
                || !areDigits(account, ACCOUNT_DIGITS) || !areDigits(offset, OFFSET_DIGITS)) {
            return BAD_NUMBER;
        }
        if (!hasKey(k) || !slots.filled[slot]) {
            return EMPTY_OR_FILLED;
        }
        if (!isPinKey(k) || slots.usageOf[slot] != OFFSET_USAGE) {
            return OTHER_USAGE;
        }
        takeKey(k, PIN_KEY_CHANGE);
        long plain = openedPinBlock(format, account);
        if (!PinBlock.isOf(format, plain) || PinBlock.lengthOf(plain) != OFFSET_DIGITS) {
            return WRONG_CONTENT;
        }
        cipher.take(slots.left[slot], slots.right[slot]);
        long natural = cipher.sealBlock(account) >>> 48;
        return isRightPin(PinBlock.digitsOf(plain, OFFSET_DIGITS), natural, offset) ? 0 : WRONG_CONTENT;
    }

    public int code(int slot, int n) {
        if (!hasMaster) {
            return NOT_SEALED;
        }
        if (!Slots.isNumber(slot) || n < 0 || n > 8 * MESSAGE_LONGS) {
            return BAD_NUMBER;
        }
        if (!slots.filled[slot]) {
            return EMPTY_OR_FILLED;
        }
        if (slots.usageOf[slot] != MAC_USAGE) {
            return OTHER_USAGE;
        }
        cipher.take(slots.left[slot], slots.right[slot]);
        long chained = 0;
        for (int i = 0; i <= n / 8; i++) {
            chained = cipher.leftDes.encrypted(chained ^ paddedLong(i, n));
        }
        buffer[0] = cipher.leftDes.encrypted(cipher.rightDes.decrypted(chained));
        return 0;
    }

    private boolean allHalvesTold() {
        for (int i = 0; i < 2 * COMPONENTS; i++) {
            if (!halfTold[i]) {
                return false;
            }
        }
        return true;
    }

    /** 0, or why a call that needs a filled slot is refused. */
    private int refusalOfSlot(int slot) {
        if (!hasMaster) {
            return NOT_SEALED;
        }
        if (!Slots.isNumber(slot)) {
            return BAD_NUMBER;
        }
        return slots.filled[slot] ? 0 : EMPTY_OR_FILLED;
    }

    private static boolean isKeyNumber(int k) {
        return k >= 0 && k < FIRST_TERMINAL + Terminals.COUNT;
    }

    private boolean hasKey(int k) {
        return k < FIRST_TERMINAL ? slots.filled[k] : terminals.made[k - FIRST_TERMINAL];
    }

    private boolean isPinKey(int k) {
        return k >= FIRST_TERMINAL || slots.usageOf[k] == PIN_USAGE;
    }

    /** A slot's key is taken as it is: only a terminal's is changed for what it is used for. */
    private void takeKey(int k, long terminalChange) {
        if (k < FIRST_TERMINAL) {
            cipher.take(slots.left[k], slots.right[k]);
        } else {
            terminals.deriveCurrentKey(k - FIRST_TERMINAL);
            cipher.take(terminals.currentLeft ^ terminalChange, terminals.currentRight ^ terminalChange);
        }
    }

    /** The buffer's PIN block without the account's part, opened with the key taken last. */
    private long openedPinBlock(int format, long account) {
        return cipher.openBlock(buffer[0]) ^ PinBlock.accountPart(format, account);
    }

    private long codeOfKeyBlock() {
        cipher.take(masterLeft ^ KeyBlock.CODE_CHANGE, masterRight ^ KeyBlock.CODE_CHANGE);
        long chained = 0;
        for (int i = 0; i < 4; i++) {
            chained = cipher.sealBlock(chained ^ buffer[i]);
        }
        return chained;
    }

    /** Long i of the message's first n bytes with their padding; i is at most n / 8. */
    private long paddedLong(int i, int n) {
        if (i < n / 8) {
            return messageLongs[i];
        }
        int rest = n % 8;
        long padding = 0x80L << (56 - 8 * rest);
        // a shift by 64 would be none in Java, and behind the last byte there is no long to read
        return rest == 0 ? padding : messageLongs[i] & (-1L << (64 - 8 * rest)) | padding;
    }

    /** Whether a number has at most so many digits, four bits each, and all of them are 0 to 9. */
    private static boolean areDigits(long number, int count) {
        for (int i = 0; i < 16; i++) {
            long greatest = i < count ? 9 : 0;
            if ((number >>> 4 * i & 15) > greatest) {
                return false;
            }
        }
        return true;
    }

    private static boolean isRightPin(long digits, long natural, long offset) {
        for (int shift = 0; shift < 4 * OFFSET_DIGITS; shift += 4) {
            long four = natural >>> shift & 15;
            long naturalDigit = four >= 10 ? four - 10 : four;
            if ((naturalDigit + (offset >>> shift & 15)) % 10 != (digits >>> shift & 15)) {
                return false;
            }
        }
        return true;
    }

    private static long withOddParity(long half) {
        long odd = half;
        for (int shift = 0; shift < 64; shift += 8) {
            if (Long.bitCount(half >>> shift & 0xff) % 2 == 0) {
                odd ^= 1L << shift;
            }
        }
        return odd;
    }

    /** The slots' keys, a row for each thing that a slot has. */
    private static final class Slots {
        static final int COUNT = 16;

        final boolean[] filled = new boolean[COUNT];
        final int[] usageOf = new int[COUNT];
        final boolean[] exported = new boolean[COUNT];
        final long[] left = new long[COUNT];
        final long[] right = new long[COUNT];

        static boolean isNumber(int slot) {
            return slot >= 0 && slot < COUNT;
        }

        void fill(int slot, int usage, boolean exports, long leftHalf, long rightHalf) {
            filled[slot] = true;
            usageOf[slot] = usage;
            exported[slot] = exports;
            left[slot] = leftHalf;
            right[slot] = rightHalf;
        }

        /** The key goes too: an emptied slot of a security module keeps no secret. */
        void empty(int slot) {
            fill(slot, 0, false, 0, 0);
            filled[slot] = false;
        }
    }

    /** Terminals with their registers and first keys (ANSI X9.24-1). */
    private static final class Terminals {
        static final int COUNT = 8;

        private static final int COUNTER_BITS = 21;
        static final int LAST_COUNTER = (1 << COUNTER_BITS) - 1;
        private static final int MOST_ONES = 10;
        private static final long GREATEST_SERIAL = (1L << 43) - 1;
        private static final long SERIAL_FRONT = 0xffffL << 48;
        private static final long VARIANT = 0xc0c0c0c000000000L;

        final boolean[] made = new boolean[COUNT];
        private final long[] register = new long[COUNT];
        private final long[] firstLeft = new long[COUNT];
        private final long[] firstRight = new long[COUNT];
        private final Des des = new Des();
        long currentLeft;
        long currentRight;

        static boolean isNumber(int t) {
            return t >= 0 && t < COUNT;
        }

        static boolean isSerial(long serial) {
            return serial >= 0 && serial <= GREATEST_SERIAL;
        }

        void make(int t, long serial, long baseLeft, long baseRight, Cipher cipher) {
            made[t] = true;
            register[t] = serial << COUNTER_BITS;
            long front = SERIAL_FRONT | register[t] >>> 16;
            cipher.take(baseLeft, baseRight);
            firstLeft[t] = cipher.sealBlock(front);
            cipher.take(baseLeft ^ VARIANT, baseRight ^ VARIANT);
            firstRight[t] = cipher.sealBlock(front);
        }

        int counter(int t) {
            return (int) (register[t] & LAST_COUNTER);
        }

        private long withoutCounter(int t) {
            return register[t] & ~(long) LAST_COUNTER;
        }

        /** The counter becomes the least allowed one from a number on: it, or the refusal. */
        int advance(int t, int number) {
            int reached = leastAllowed(number);
            if (reached > LAST_COUNTER || reached < counter(t)) {
                return EXHAUSTED;
            }
            register[t] = withoutCounter(t) | reached;
            return reached;
        }

        /**
         * Between a number with too many bits 1 and its sum with its lowest one, all have still more
         * of them: so the lowest one is added, once for each bit at most.
         */
        private static int leastAllowed(int number) {
            int allowed = number;
            for (int i = 0; i <= COUNTER_BITS && Integer.bitCount(allowed) > MOST_ONES; i++) {
                allowed += allowed & -allowed;
            }
            return allowed;
        }

        /** Works out the current key of a terminal, to currentLeft and currentRight. */
        void deriveCurrentKey(int t) {
            currentLeft = firstLeft[t];
            currentRight = firstRight[t];
            long soFar = withoutCounter(t);
            for (int i = COUNTER_BITS - 1; i >= 0; i--) {
                long bit = 1L << i;
                if ((register[t] & bit) != 0) {
                    soFar |= bit;
                    long newRight = derivedHalf(soFar, currentLeft, currentRight);
                    currentLeft = derivedHalf(soFar, currentLeft ^ VARIANT, currentRight ^ VARIANT);
                    currentRight = newRight;
                }
            }
        }

        private long derivedHalf(long soFar, long left, long right) {
            des.take(left);
            return des.encrypted(soFar ^ right) ^ right;
        }
    }

    /** The longs of a key block before they are sealed. */
    private static final class KeyBlock {
        static final long CODE_CHANGE = 0x4d4d4d4d4d4d4d4dL;

        /** The bytes 'K', 'B', 0 for the usage's letter, 'T', 'C', '1', 'E', 0. */
        private static final long HEADER = 0x4b42005443314500L;
        private static final char[] LETTERS = {'P', 'M', 'B', 'O'};
        private static final long KEY_BITS = 128;

        static long header(int usage) {
            return HEADER | (long) LETTERS[usage] << 40;
        }

        /** The usage that a header tells, or -1 when it is no header. */
        static int usageOfHeader(long header) {
            for (int usage = 0; usage < LETTERS.length; usage++) {
                if (header == header(usage)) {
                    return usage;
                }
            }
            return -1;
        }

        static long firstLong(long left) {
            return KEY_BITS << 48 | left >>> 16;
        }

        static long secondLong(long left, long right) {
            return left << 48 | right >>> 16;
        }

        static long thirdLong(long right) {
            return right << 48;
        }

        static long leftHalf(long first, long second) {
            return first << 16 | second >>> 48;
        }

        static long rightHalf(long second, long third) {
            return second << 16 | third >>> 48;
        }

        /** Whether the key's bits are told in front of it, and zeros stand behind it. */
        static boolean isFramed(long first, long third) {
            return first >>> 48 == KEY_BITS && third << 16 == 0;
        }
    }

    /** PIN blocks before they are sealed. */
    private static final class PinBlock {
        static final int SHORTEST = 4;

        private static final int LONGEST = 12;
        /** How many fours of bits stand behind a block's format and length. */
        private static final int BODY = 14;

        static boolean isFormat(int format) {
            return format == 0 || format == 1 || format == 3;
        }

        static boolean isLength(int length) {
            return length >= SHORTEST && length <= LONGEST;
        }

        static int fillCount(int length) {
            return BODY - length;
        }

        /** Whether the lowest fours of bits of fill, so many, may stand behind a PIN. */
        static boolean mayFill(int format, long fill, int count) {
            return format != 3 || areAtLeast(10, fill, count);
        }

        /** The block, what of the account belongs to it added. */
        static long made(int format, long account, int length, long digits, long fill) {
            int fillBits = 4 * fillCount(length);
            long filled = (format == 0 ? -1L : fill) & (1L << fillBits) - 1;
            long plain = (long) format << 60 | (long) length << 56 | digits << fillBits | filled;
            return plain ^ accountPart(format, account);
        }

        static long accountPart(int format, long account) {
            return format == 1 ? 0 : account >>> 4 & 0xffffffffffffL;
        }

        /** Whether a block, without the account's part, is of a format. */
        static boolean isOf(int format, long plain) {
            int length = lengthOf(plain);
            if (plain >>> 60 != format || !isLength(length) || !areDigits(digitsOf(plain, length), length)) {
                return false;
            }
            if (format == 1) {
                return true;
            }
            return areAtLeast(format == 0 ? 15 : 10, plain, fillCount(length));
        }

        static int lengthOf(long plain) {
            return (int) (plain >>> 56 & 15);
        }

        static long digitsOf(long plain, int length) {
            return plain << 8 >>> 64 - 4 * length;
        }

        private static boolean areAtLeast(int least, long fours, int count) {
            for (int i = 0; i < count; i++) {
                if ((fours >>> 4 * i & 15) < least) {
                    return false;
                }
            }
            return true;
        }
    }

    /** DES three times with a key of two halves. */
    private static final class Cipher {
        final Des leftDes = new Des();
        final Des rightDes = new Des();

        void take(long left, long right) {
            leftDes.take(left);
            rightDes.take(right);
        }

        long sealBlock(long block) {
            return leftDes.encrypted(rightDes.decrypted(leftDes.encrypted(block)));
        }

        long openBlock(long block) {
            return leftDes.decrypted(rightDes.encrypted(leftDes.decrypted(block)));
        }

        int checkValue() {
            return (int) (sealBlock(0) >>> 40);
        }
    }

    /** DES (FIPS 46-3) with the key that it took last. The tables number bits from 1, the highest. */
    private static final class Des {
        private static final int ROUNDS = 16;
        private static final int KEY_HALF_BITS = 28;
        private static final long KEY_HALF = (1L << KEY_HALF_BITS) - 1;

        private static final byte[] INITIAL = {
            58, 50, 42, 34, 26, 18, 10, 2, 60, 52, 44, 36, 28, 20, 12, 4,
            62, 54, 46, 38, 30, 22, 14, 6, 64, 56, 48, 40, 32, 24, 16, 8,
            57, 49, 41, 33, 25, 17, 9, 1, 59, 51, 43, 35, 27, 19, 11, 3,
            61, 53, 45, 37, 29, 21, 13, 5, 63, 55, 47, 39, 31, 23, 15, 7
        };
        private static final byte[] FINAL = {
            40, 8, 48, 16, 56, 24, 64, 32, 39, 7, 47, 15, 55, 23, 63, 31,
            38, 6, 46, 14, 54, 22, 62, 30, 37, 5, 45, 13, 53, 21, 61, 29,
            36, 4, 44, 12, 52, 20, 60, 28, 35, 3, 43, 11, 51, 19, 59, 27,
            34, 2, 42, 10, 50, 18, 58, 26, 33, 1, 41, 9, 49, 17, 57, 25
        };
        private static final byte[] KEY_CHOICE = {
            57, 49, 41, 33, 25, 17, 9, 1, 58, 50, 42, 34, 26, 18,
            10, 2, 59, 51, 43, 35, 27, 19, 11, 3, 60, 52, 44, 36,
            63, 55, 47, 39, 31, 23, 15, 7, 62, 54, 46, 38, 30, 22,
            14, 6, 61, 53, 45, 37, 29, 21, 13, 5, 28, 20, 12, 4
        };
        private static final byte[] ROUND_CHOICE = {
            14, 17, 11, 24, 1, 5, 3, 28, 15, 6, 21, 10,
            23, 19, 12, 4, 26, 8, 16, 7, 27, 20, 13, 2,
            41, 52, 31, 37, 47, 55, 30, 40, 51, 45, 33, 48,
            44, 49, 39, 56, 34, 53, 46, 42, 50, 36, 29, 32
        };
        private static final byte[] KEY_TURNS = {1, 1, 2, 2, 2, 2, 2, 2, 1, 2, 2, 2, 2, 2, 2, 1};

        /**
         * What the eight boxes S answer to six bits in the order that they come, 64 each, with the
         * permutation P done already: it would be the dearest part of a round.
         */
        private static final int[] BOXES = {
            0x00808200, 0x00000000, 0x00008000, 0x00808202, 0x00808002, 0x00008202, 0x00000002, 0x00008000,
            0x00000200, 0x00808200, 0x00808202, 0x00000200, 0x00800202, 0x00808002, 0x00800000, 0x00000002,
            0x00000202, 0x00800200, 0x00800200, 0x00008200, 0x00008200, 0x00808000, 0x00808000, 0x00800202,
            0x00008002, 0x00800002, 0x00800002, 0x00008002, 0x00000000, 0x00000202, 0x00008202, 0x00800000,
            0x00008000, 0x00808202, 0x00000002, 0x00808000, 0x00808200, 0x00800000, 0x00800000, 0x00000200,
            0x00808002, 0x00008000, 0x00008200, 0x00800002, 0x00000200, 0x00000002, 0x00800202, 0x00008202,
            0x00808202, 0x00008002, 0x00808000, 0x00800202, 0x00800002, 0x00000202, 0x00008202, 0x00808200,
            0x00000202, 0x00800200, 0x00800200, 0x00000000, 0x00008002, 0x00008200, 0x00000000, 0x00808002,
            0x40084010, 0x40004000, 0x00004000, 0x00084010, 0x00080000, 0x00000010, 0x40080010, 0x40004010,
            0x40000010, 0x40084010, 0x40084000, 0x40000000, 0x40004000, 0x00080000, 0x00000010, 0x40080010,
            0x00084000, 0x00080010, 0x40004010, 0x00000000, 0x40000000, 0x00004000, 0x00084010, 0x40080000,
            0x00080010, 0x40000010, 0x00000000, 0x00084000, 0x00004010, 0x40084000, 0x40080000, 0x00004010,
            0x00000000, 0x00084010, 0x40080010, 0x00080000, 0x40004010, 0x40080000, 0x40084000, 0x00004000,
            0x40080000, 0x40004000, 0x00000010, 0x40084010, 0x00084010, 0x00000010, 0x00004000, 0x40000000,
            0x00004010, 0x40084000, 0x00080000, 0x40000010, 0x00080010, 0x40004010, 0x40000010, 0x00080010,
            0x00084000, 0x00000000, 0x40004000, 0x00004010, 0x40000000, 0x40080010, 0x40084010, 0x00084000,
            0x00000104, 0x04010100, 0x00000000, 0x04010004, 0x04000100, 0x00000000, 0x00010104, 0x04000100,
            0x00010004, 0x04000004, 0x04000004, 0x00010000, 0x04010104, 0x00010004, 0x04010000, 0x00000104,
            0x04000000, 0x00000004, 0x04010100, 0x00000100, 0x00010100, 0x04010000, 0x04010004, 0x00010104,
            0x04000104, 0x00010100, 0x00010000, 0x04000104, 0x00000004, 0x04010104, 0x00000100, 0x04000000,
            0x04010100, 0x04000000, 0x00010004, 0x00000104, 0x00010000, 0x04010100, 0x04000100, 0x00000000,
            0x00000100, 0x00010004, 0x04010104, 0x04000100, 0x04000004, 0x00000100, 0x00000000, 0x04010004,
            0x04000104, 0x00010000, 0x04000000, 0x04010104, 0x00000004, 0x00010104, 0x00010100, 0x04000004,
            0x04010000, 0x04000104, 0x00000104, 0x04010000, 0x00010104, 0x00000004, 0x04010004, 0x00010100,
            0x80401000, 0x80001040, 0x80001040, 0x00000040, 0x00401040, 0x80400040, 0x80400000, 0x80001000,
            0x00000000, 0x00401000, 0x00401000, 0x80401040, 0x80000040, 0x00000000, 0x00400040, 0x80400000,
            0x80000000, 0x00001000, 0x00400000, 0x80401000, 0x00000040, 0x00400000, 0x80001000, 0x00001040,
            0x80400040, 0x80000000, 0x00001040, 0x00400040, 0x00001000, 0x00401040, 0x80401040, 0x80000040,
            0x00400040, 0x80400000, 0x00401000, 0x80401040, 0x80000040, 0x00000000, 0x00000000, 0x00401000,
            0x00001040, 0x00400040, 0x80400040, 0x80000000, 0x80401000, 0x80001040, 0x80001040, 0x00000040,
            0x80401040, 0x80000040, 0x80000000, 0x00001000, 0x80400000, 0x80001000, 0x00401040, 0x80400040,
            0x80001000, 0x00001040, 0x00400000, 0x80401000, 0x00000040, 0x00400000, 0x00001000, 0x00401040,
            0x00000080, 0x01040080, 0x01040000, 0x21000080, 0x00040000, 0x00000080, 0x20000000, 0x01040000,
            0x20040080, 0x00040000, 0x01000080, 0x20040080, 0x21000080, 0x21040000, 0x00040080, 0x20000000,
            0x01000000, 0x20040000, 0x20040000, 0x00000000, 0x20000080, 0x21040080, 0x21040080, 0x01000080,
            0x21040000, 0x20000080, 0x00000000, 0x21000000, 0x01040080, 0x01000000, 0x21000000, 0x00040080,
            0x00040000, 0x21000080, 0x00000080, 0x01000000, 0x20000000, 0x01040000, 0x21000080, 0x20040080,
            0x01000080, 0x20000000, 0x21040000, 0x01040080, 0x20040080, 0x00000080, 0x01000000, 0x21040000,
            0x21040080, 0x00040080, 0x21000000, 0x21040080, 0x01040000, 0x00000000, 0x20040000, 0x21000000,
            0x00040080, 0x01000080, 0x20000080, 0x00040000, 0x00000000, 0x20040000, 0x01040080, 0x20000080,
            0x10000008, 0x10200000, 0x00002000, 0x10202008, 0x10200000, 0x00000008, 0x10202008, 0x00200000,
            0x10002000, 0x00202008, 0x00200000, 0x10000008, 0x00200008, 0x10002000, 0x10000000, 0x00002008,
            0x00000000, 0x00200008, 0x10002008, 0x00002000, 0x00202000, 0x10002008, 0x00000008, 0x10200008,
            0x10200008, 0x00000000, 0x00202008, 0x10202000, 0x00002008, 0x00202000, 0x10202000, 0x10000000,
            0x10002000, 0x00000008, 0x10200008, 0x00202000, 0x10202008, 0x00200000, 0x00002008, 0x10000008,
            0x00200000, 0x10002000, 0x10000000, 0x00002008, 0x10000008, 0x10202008, 0x00202000, 0x10200000,
            0x00202008, 0x10202000, 0x00000000, 0x10200008, 0x00000008, 0x00002000, 0x10200000, 0x00202008,
            0x00002000, 0x00200008, 0x10002008, 0x00000000, 0x10202000, 0x10000000, 0x00200008, 0x10002008,
            0x00100000, 0x02100001, 0x02000401, 0x00000000, 0x00000400, 0x02000401, 0x00100401, 0x02100400,
            0x02100401, 0x00100000, 0x00000000, 0x02000001, 0x00000001, 0x02000000, 0x02100001, 0x00000401,
            0x02000400, 0x00100401, 0x00100001, 0x02000400, 0x02000001, 0x02100000, 0x02100400, 0x00100001,
            0x02100000, 0x00000400, 0x00000401, 0x02100401, 0x00100400, 0x00000001, 0x02000000, 0x00100400,
            0x02000000, 0x00100400, 0x00100000, 0x02000401, 0x02000401, 0x02100001, 0x02100001, 0x00000001,
            0x00100001, 0x02000000, 0x02000400, 0x00100000, 0x02100400, 0x00000401, 0x00100401, 0x02100400,
            0x00000401, 0x02000001, 0x02100401, 0x02100000, 0x00100400, 0x00000000, 0x00000001, 0x02100401,
            0x00000000, 0x00100401, 0x02100000, 0x00000400, 0x02000001, 0x02000400, 0x00000400, 0x00100001,
            0x08000820, 0x00000800, 0x00020000, 0x08020820, 0x08000000, 0x08000820, 0x00000020, 0x08000000,
            0x00020020, 0x08020000, 0x08020820, 0x00020800, 0x08020800, 0x00020820, 0x00000800, 0x00000020,
            0x08020000, 0x08000020, 0x08000800, 0x00000820, 0x00020800, 0x00020020, 0x08020020, 0x08020800,
            0x00000820, 0x00000000, 0x00000000, 0x08020020, 0x08000020, 0x08000800, 0x00020820, 0x00020000,
            0x00020820, 0x00020000, 0x08020800, 0x00000800, 0x00000020, 0x08020020, 0x00000800, 0x00020820,
            0x08000800, 0x00000020, 0x08000020, 0x08020000, 0x08020020, 0x08000000, 0x00020000, 0x08000820,
            0x00000000, 0x08020820, 0x00020020, 0x08000020, 0x08020000, 0x08000800, 0x08000820, 0x00000000,
            0x08020820, 0x00020800, 0x00020800, 0x00000820, 0x00000820, 0x00020020, 0x08000000, 0x08020800
        };

        /** These, all 0, are the round keys of the key 0. */
        private final long[] roundKeys = new long[ROUNDS];
        private long key;

        /** Round keys are dear, and often the same key comes again: then they stay. */
        void take(long newKey) {
            if (newKey == key) {
                return;
            }
            key = newKey;
            long chosen = picked(newKey, 64, KEY_CHOICE);
            long high = chosen >>> KEY_HALF_BITS;
            long low = chosen & KEY_HALF;
            for (int i = 0; i < ROUNDS; i++) {
                high = turned(high, KEY_TURNS[i]);
                low = turned(low, KEY_TURNS[i]);
                roundKeys[i] = picked(high << KEY_HALF_BITS | low, 2 * KEY_HALF_BITS, ROUND_CHOICE);
            }
        }

        long encrypted(long block) {
            return done(block, false);
        }

        long decrypted(long block) {
            return done(block, true);
        }

        private long done(long block, boolean backwards) {
            long mixed = picked(block, 64, INITIAL);
            int left = (int) (mixed >>> 32);
            int right = (int) mixed;
            for (int i = 0; i < ROUNDS; i++) {
                int newRight = left ^ boxed(right, roundKeys[backwards ? ROUNDS - 1 - i : i]);
                left = right;
                right = newRight;
            }
            return picked((long) right << 32 | left & 0xffffffffL, 64, FINAL);
        }

        /** Each box sees its four bits of the half and the two beside them, which a turn brings down. */
        private static int boxed(int half, long roundKey) {
            int answer = 0;
            for (int box = 0; box < 8; box++) {
                int turn = 4 * box + 5;
                int six = (half << turn | half >>> 32 - turn) & 63;
                int keySix = (int) (roundKey >>> 42 - 6 * box) & 63;
                answer |= BOXES[64 * box + (six ^ keySix)];
            }
            return answer;
        }

        private static long turned(long keyHalf, int turn) {
            return (keyHalf << turn | keyHalf >>> KEY_HALF_BITS - turn) & KEY_HALF;
        }

        /** The bits that a table names, in its order, of a value of so many bits. */
        private static long picked(long value, int bits, byte[] table) {
            long answer = 0;
            for (int i = 0; i < table.length; i++) {
                answer = answer << 1 | value >>> bits - table[i] & 1;
            }
            return answer;
        }
    }
}
