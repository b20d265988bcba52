/** PIN blocks as texts of 16 hexadecimal digits: another way than the class's own to make and read them. */
final class Hex {
    private Hex() {
    }

    static String of(long value) {
        return String.format("%016x", value);
    }

    static long number(String digits) {
        return Long.parseUnsignedLong(digits, 16);
    }

    /** The block before it is sealed; fill is a text that the last digits are taken of. */
    static long pinBlock(int format, String account, String pin, String fill) {
        int wanted = 14 - pin.length();
        String filled = format == 0 ? "f".repeat(wanted) : fill.substring(fill.length() - wanted);
        return withAccount(format, account, number(format + Integer.toHexString(pin.length()) + pin + filled));
    }

    /** Adds the account's 12 digits in front of its last one, or takes them away. */
    static long withAccount(int format, String account, long block) {
        return format == 1 ? block : block ^ number("0000" + account.substring(3, 15));
    }
}
