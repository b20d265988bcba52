import java.util.HashMap;
import java.util.Map;

/**
 * The document's words again, in another way than the class's: DES by the Java library, PIN blocks as texts, and
 * each call gathers all refusals that hold and answers the first in the document's order.
 */
final class Model {
    private static final long VARIANT = 0xc0c0c0c000000000L;
    private static final String LETTERS = "PMBO";

    private record Slot(int usage, boolean exports, long left, long right) {
    }

    private static final class Terminal {
        long serial;
        int counter;
        long left;
        long right;
    }

    /** The refusals that hold; the greatest number comes first. */
    private final class Refusal {
        int first = sealed ? Integer.MIN_VALUE : -1;

        Refusal when(boolean holds, int refusal) {
            if (holds) {
                first = Math.max(first, refusal);
            }
            return this;
        }

        Refusal slotNumber(int slot) {
            return when(slot < 0 || slot > 15, -2);
        }

        Refusal keyNumber(int k) {
            return when(k < 0 || k > 23, -2);
        }

        Refusal keyIsThere(int k) {
            return when(k < 16 ? !slots.containsKey(k) : !terminals.containsKey(k - 16), -3);
        }

        Refusal usageIs(int slot, int usage) {
            return when(slots.containsKey(slot) && slots.get(slot).usage != usage, -4);
        }

        boolean any() {
            return first != Integer.MIN_VALUE;
        }
    }

    private final Long[] halves = new Long[6];
    private boolean sealed;
    private long masterLeft;
    private long masterRight;
    private final Map<Integer, Slot> slots = new HashMap<>();
    private final Map<Integer, Terminal> terminals = new HashMap<>();
    final long[] buffer = new long[5];
    private final byte[] message = new byte[64];

    void component(int n, int half, long value) {
        if (n < 0 || n > 2 || half < 0 || half > 1) {
            throw new IllegalArgumentException();
        }
        if (sealed) {
            throw new IllegalStateException();
        }
        halves[n + 3 * half] = value;
    }

    int seal() {
        boolean missing = false;
        for (Long half : halves) {
            missing |= half == null;
        }
        if (missing || sealed) {
            throw new IllegalStateException();
        }
        masterLeft = Parity.odd(halves[0] ^ halves[1] ^ halves[2]);
        masterRight = Parity.odd(halves[3] ^ halves[4] ^ halves[5]);
        sealed = true;
        return Jce.checkValue(masterLeft, masterRight);
    }

    void poke(int k, long value) {
        if (k < 0 || k > 4) {
            throw new IllegalArgumentException();
        }
        buffer[k] = value;
    }

    void message(int k, long value) {
        if (k < 0 || k > 7) {
            throw new IllegalArgumentException();
        }
        System.arraycopy(Jce.bytes(value), 0, message, 8 * k, 8);
    }

    int load(int slot, int usage, boolean exports) {
        Refusal refusal = new Refusal().slotNumber(slot).when(usage < 0 || usage > 3, -2)
                .when(slots.containsKey(slot), -3);
        if (refusal.any()) {
            return refusal.first;
        }
        slots.put(slot, new Slot(usage, exports, Parity.odd(buffer[0]), Parity.odd(buffer[1])));
        return Jce.checkValue(buffer[0], buffer[1]);
    }

    int clear(int slot) {
        Refusal refusal = new Refusal().slotNumber(slot).keyIsThere(slot);
        if (refusal.any()) {
            return refusal.first;
        }
        slots.remove(slot);
        return 0;
    }

    int usage(int slot) {
        Refusal refusal = new Refusal().slotNumber(slot).keyIsThere(slot);
        return refusal.any() ? refusal.first : slots.get(slot).usage;
    }

    int wrap(int slot) {
        Refusal refusal = new Refusal().slotNumber(slot).keyIsThere(slot)
                .when(slots.containsKey(slot) && !slots.get(slot).exports, -5);
        if (refusal.any()) {
            return refusal.first;
        }
        Slot key = slots.get(slot);
        String header = "KB" + LETTERS.charAt(key.usage) + "TC1E\0";
        StringBuilder hex = new StringBuilder();
        for (char c : header.toCharArray()) {
            hex.append(String.format("%02x", (int) c));
        }
        hex.append("0080").append(Hex.of(key.left)).append(Hex.of(key.right)).append("000000000000");
        for (int i = 0; i < 4; i++) {
            long plain = Hex.number(hex.substring(16 * i, 16 * i + 16));
            buffer[i] = i == 0 ? plain : Jce.sealed(masterLeft, masterRight, plain ^ buffer[i - 1]);
        }
        buffer[4] = blockCode();
        return 40;
    }

    private long blockCode() {
        long change = 77 * 0x0101010101010101L;
        long code = 0;
        for (int i = 0; i < 4; i++) {
            code = Jce.sealed(masterLeft ^ change, masterRight ^ change, code ^ buffer[i]);
        }
        return code;
    }

    int unwrap(int slot) {
        String hex = "";
        for (int i = 1; i < 4 && sealed; i++) {
            hex += Hex.of(Jce.opened(masterLeft, masterRight, buffer[i]) ^ buffer[i - 1]);
        }
        int usage = LETTERS.indexOf((char) (buffer[0] >>> 40 & 255));
        Refusal refusal = new Refusal().slotNumber(slot).when(slots.containsKey(slot), -3)
                .when(usage < 0 || !Hex.of(buffer[0]).matches("4b42..5443314500"), -6)
                .when(buffer[4] != blockCode(), -6).when(!hex.matches("0080.{32}0{12}"), -6);
        if (refusal.any()) {
            return refusal.first;
        }
        long left = Hex.number(hex.substring(4, 20));
        long right = Hex.number(hex.substring(20, 36));
        if (Parity.odd(left) != left || Parity.odd(right) != right) {
            return -6;
        }
        slots.put(slot, new Slot(usage, true, left, right));
        return usage;
    }

    int terminal(int t, int slot, long serial) {
        Refusal refusal = new Refusal().when(t < 0 || t > 7, -2).slotNumber(slot).when(serial >> 43 != 0, -2)
                .keyIsThere(slot).when(terminals.containsKey(t), -3).usageIs(slot, 2);
        if (refusal.any()) {
            return refusal.first;
        }
        Terminal made = new Terminal();
        Slot base = slots.get(slot);
        made.serial = serial;
        long front = Hex.number("ffff" + Hex.of(serial << 21).substring(0, 12));
        made.left = Jce.sealed(base.left, base.right, front);
        made.right = Jce.sealed(base.left ^ VARIANT, base.right ^ VARIANT, front);
        terminals.put(t, made);
        return 0;
    }

    int next(int t) {
        Refusal refusal = new Refusal().when(t < 0 || t > 7, -2).keyIsThere(16 + (t & 7));
        return refusal.any() ? refusal.first : count(terminals.get(t), terminals.get(t).counter + 1);
    }

    int skip(int t, int number) {
        Refusal refusal = new Refusal().when(t < 0 || t > 7, -2).when(number < 1 || number >= 1 << 21, -2)
                .keyIsThere(16 + (t & 7));
        return refusal.any() ? refusal.first : count(terminals.get(t), number);
    }

    private static int count(Terminal terminal, int from) {
        for (int counter = from; counter < 1 << 21; counter++) {
            if (Integer.bitCount(counter) <= 10) {
                if (counter < terminal.counter) {
                    return -7;
                }
                terminal.counter = counter;
                return counter;
            }
        }
        return -7;
    }

    int check(int k) {
        Refusal refusal = new Refusal().keyNumber(k).keyIsThere(k);
        if (refusal.any()) {
            return refusal.first;
        }
        long[] key = key(k, 0);
        return Jce.checkValue(key[0], key[1]);
    }

    private long[] key(int k, long change) {
        if (k < 16) {
            return new long[] {slots.get(k).left, slots.get(k).right};
        }
        Terminal terminal = terminals.get(k - 16);
        long left = terminal.left;
        long right = terminal.right;
        int bits = 0;
        while (bits != terminal.counter) {
            bits |= Integer.highestOneBit(terminal.counter ^ bits);
            long r = (terminal.serial << 21) + bits;
            long newRight = Jce.des(left, r ^ right) ^ right;
            long newLeft = Jce.des(left ^ VARIANT, r ^ right ^ VARIANT) ^ right ^ VARIANT;
            left = newLeft;
            right = newRight;
        }
        return new long[] {left ^ change, right ^ change};
    }

    private static boolean isFormat(int format) {
        return format == 0 || format == 1 || format == 3;
    }

    private static boolean isAccount(long account) {
        return Hex.of(account).matches("[0-9]{16}");
    }

    int pin(int k, int form, long account, long digits, long fill) {
        int format = Math.floorDiv(form, 16);
        int length = Math.floorMod(form, 16);
        Refusal refusal = new Refusal().keyNumber(k).when(!isFormat(format) || length < 4 || length > 12, -2)
                .when(!isAccount(account), -2).keyIsThere(k).usageIs(k, 0)
                .when(!Hex.of(digits).matches("0{" + (16 - length) + "}[0-9]{" + length + "}"), -2)
                .when(format == 3 && !Hex.of(fill).matches(".*[a-f]{" + Math.max(0, 14 - length) + "}"), -2);
        if (refusal.any()) {
            return refusal.first;
        }
        put(k, format, account, Hex.of(digits).substring(16 - length), fill);
        return 0;
    }

    private void put(int k, int format, long account, String pin, long fill) {
        long[] key = key(k, 255);
        buffer[0] = Jce.sealed(key[0], key[1], Hex.pinBlock(format, Hex.of(account), pin, Hex.of(fill)));
    }

    /** The PIN of the buffer's block, or null when it is not of the format. */
    private String pinOf(int k, int format, long account) {
        long[] key = key(k, 255);
        String block = Hex.of(Hex.withAccount(format, Hex.of(account), Jce.opened(key[0], key[1], buffer[0])));
        int length = Character.digit(block.charAt(1), 16);
        if (length < 4 || length > 12) {
            return null;
        }
        String behind = format == 0 ? "f" : format == 1 ? "." : "[a-f]";
        boolean is = block.matches(format + "." + "[0-9]{" + length + "}" + behind + "{" + (14 - length) + "}");
        return is ? block.substring(2, 2 + length) : null;
    }

    int translate(int from, int to, int forms, long account, long fill) {
        int formatFrom = Math.floorDiv(forms, 16);
        int formatTo = Math.floorMod(forms, 16);
        Refusal refusal = new Refusal().keyNumber(from).keyNumber(to).when(!isFormat(formatFrom) || !isFormat(formatTo), -2)
                .when(!isAccount(account), -2).when(formatTo == 3 && !Hex.of(fill).matches(".{6}[a-f]{10}"), -2)
                .keyIsThere(from).keyIsThere(to).usageIs(from, 0).usageIs(to, 0);
        if (refusal.any()) {
            return refusal.first;
        }
        String pin = pinOf(from, formatFrom, account);
        if (pin == null) {
            return -6;
        }
        put(to, formatTo, account, pin, fill);
        return pin.length();
    }

    int verify(int k, int how, long account, int offset) {
        int slot = Math.floorDiv(how, 16);
        int format = Math.floorMod(how, 16);
        Refusal refusal = new Refusal().keyNumber(k).slotNumber(slot).when(!isFormat(format), -2)
                .when(!isAccount(account), -2).when(!isOffset(offset), -2)
                .keyIsThere(k).keyIsThere(slot).usageIs(k, 0).usageIs(slot, 3);
        if (refusal.any()) {
            return refusal.first;
        }
        String pin = pinOf(k, format, account);
        return pin != null && pin.equals(rightPin(slots.get(slot), account, Hex.of(offset).substring(12))) ? 0 : -6;
    }

    private static boolean isOffset(int offset) {
        return Hex.of(offset).matches("0{12}[0-9]{4}");
    }

    private static String rightPin(Slot key, long account, String offset) {
        String sealed = Hex.of(Jce.sealed(key.left, key.right, account));
        String pin = "";
        for (int i = 0; i < 4; i++) {
            pin += (Character.digit(sealed.charAt(i), 16) % 10 + Character.digit(offset.charAt(i), 10)) % 10;
        }
        return pin;
    }

    /** A PIN that is right, for a run that is to come to one; 0 when there is no such slot. */
    long rightPin(int slot, long account, int offset) {
        boolean can = slots.containsKey(slot) && isAccount(account) && isOffset(offset);
        return can ? Hex.number(rightPin(slots.get(slot), account, Hex.of(offset).substring(12))) : 0;
    }

    int code(int slot, int n) {
        Refusal refusal = new Refusal().slotNumber(slot).when(n < 0 || n > 64, -2).keyIsThere(slot).usageIs(slot, 1);
        if (refusal.any()) {
            return refusal.first;
        }
        byte[] padded = new byte[n + 8 - n % 8];
        System.arraycopy(message, 0, padded, 0, n);
        padded[n] = (byte) 128;
        Slot key = slots.get(slot);
        long chained = 0;
        for (int k = 0; k < padded.length / 8; k++) {
            chained = Jce.des(key.left, chained ^ Jce.longAt(padded, k));
        }
        buffer[0] = Jce.des(key.left, Jce.undes(key.right, chained));
        return 0;
    }
}
