/** Natural PINs of accounts by the OFFSET slots 3 and 7 of Made.withKeys(). */
final class Natural {
    private Natural() {
    }

    /** The first four fours of bits of the sealed account, as they come. */
    static int[] fours(int slot, long account) {
        String front = Hex.of(Jce.sealed(Made.keyLeft(slot), Made.RIGHT, account)).substring(0, 4);
        int[] fours = new int[4];
        for (int i = 0; i < 4; i++) {
            fours[i] = Character.digit(front.charAt(i), 16);
        }
        return fours;
    }

    /** The PIN that is right with an offset of four digits, four bits each. */
    static long rightPin(int slot, long account, int offset) {
        long pin = 0;
        int shift = 12;
        for (int four : fours(slot, account)) {
            int natural = four < 10 ? four : four - 10;
            pin = 16 * pin + (natural + (offset >> shift & 15)) % 10;
            shift -= 4;
        }
        return pin;
    }
}
