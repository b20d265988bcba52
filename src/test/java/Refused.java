import java.util.ArrayList;
import java.util.List;
import java.util.function.ToIntFunction;

/**
 * Calls that are refused by a module as Made.inUse() makes it, with the refusal that is due: for each call of the face
 * every refusal alone, and all pairs of refusals that can hold at once.
 */
record Refused(String call, int due, ToIntFunction<PinModule> run) {
    private static final long ACCOUNT = Made.ACCOUNT;
    private static final int TOO_GREAT = 1 << 21;

    static List<Refused> all() {
        List<Refused> all = new ArrayList<>();
        addSlotCalls(all);
        addKeyBlockCalls(all);
        addTerminals(all);
        addCounters(all);
        addPins(all);
        addTranslations(all);
        addTranslationPairs(all);
        addVerifications(all);
        addVerificationPairs(all);
        addCodes(all);
        return all;
    }

    private static void addSlotCalls(List<Refused> all) {
        all.add(new Refused("load(-1, 0, true)", -2, x -> x.load(-1, 0, true)));
        all.add(new Refused("load(16, 0, true)", -2, x -> x.load(16, 0, true)));
        all.add(new Refused("load(10, -1, true)", -2, x -> x.load(10, -1, true)));
        all.add(new Refused("load(10, 4, true)", -2, x -> x.load(10, 4, true)));
        all.add(new Refused("load(0, 4, true), -2 before -3", -2, x -> x.load(0, 4, true)));
        all.add(new Refused("load(0, 1, false)", -3, x -> x.load(0, 1, false)));
        all.add(new Refused("clear(-1)", -2, x -> x.clear(-1)));
        all.add(new Refused("clear(16)", -2, x -> x.clear(16)));
        all.add(new Refused("clear(9)", -3, x -> x.clear(9)));
        all.add(new Refused("usage(-1)", -2, x -> x.usage(-1)));
        all.add(new Refused("usage(16)", -2, x -> x.usage(16)));
        all.add(new Refused("usage(9)", -3, x -> x.usage(9)));
        all.add(new Refused("check(-1)", -2, x -> x.check(-1)));
        all.add(new Refused("check(24)", -2, x -> x.check(24)));
        all.add(new Refused("check(9)", -3, x -> x.check(9)));
        all.add(new Refused("check(19)", -3, x -> x.check(19)));
    }

    /** What is in the buffer is no key block, so -6 holds of every unwrap. */
    private static void addKeyBlockCalls(List<Refused> all) {
        all.add(new Refused("wrap(-1)", -2, x -> x.wrap(-1)));
        all.add(new Refused("wrap(16)", -2, x -> x.wrap(16)));
        all.add(new Refused("wrap(9), -3 before -5", -3, x -> x.wrap(9)));
        all.add(new Refused("wrap(8)", -5, x -> x.wrap(8)));
        all.add(new Refused("unwrap(-1), -2 before -6", -2, x -> x.unwrap(-1)));
        all.add(new Refused("unwrap(16), -2 before -6", -2, x -> x.unwrap(16)));
        all.add(new Refused("unwrap(0), -3 before -6", -3, x -> x.unwrap(0)));
        all.add(new Refused("unwrap(9)", -6, x -> x.unwrap(9)));
    }

    private static void addTerminals(List<Refused> all) {
        all.add(new Refused("terminal(-1, 2, 0)", -2, x -> x.terminal(-1, 2, 0)));
        all.add(new Refused("terminal(3, 2, -1)", -2, x -> x.terminal(3, 2, -1)));
        all.add(new Refused("terminal(8, 10, 0), -2 before -3", -2, x -> x.terminal(8, 10, 0)));
        all.add(new Refused("terminal(0, 16, 0), -2 before -3", -2, x -> x.terminal(0, 16, 0)));
        all.add(new Refused("terminal(0, 2, -1), -2 before -3", -2, x -> x.terminal(0, 2, -1)));
        all.add(new Refused("terminal(3, 10, 2^43), -2 before -3", -2, x -> x.terminal(3, 10, 1L << 43)));
        all.add(new Refused("terminal(8, 0, 0), -2 before -4", -2, x -> x.terminal(8, 0, 0)));
        all.add(new Refused("terminal(3, 0, -1), -2 before -4", -2, x -> x.terminal(3, 0, -1)));
        all.add(new Refused("terminal(0, 2, 7)", -3, x -> x.terminal(0, 2, 7)));
        all.add(new Refused("terminal(3, 10, 7)", -3, x -> x.terminal(3, 10, 7)));
        all.add(new Refused("terminal(0, 10, 7)", -3, x -> x.terminal(0, 10, 7)));
        all.add(new Refused("terminal(0, 0, 7), -3 before -4", -3, x -> x.terminal(0, 0, 7)));
        all.add(new Refused("terminal(3, 0, 7)", -4, x -> x.terminal(3, 0, 7)));
    }

    private static void addCounters(List<Refused> all) {
        all.add(new Refused("next(-1)", -2, x -> x.next(-1)));
        all.add(new Refused("next(8)", -2, x -> x.next(8)));
        all.add(new Refused("next(3)", -3, x -> x.next(3)));
        all.add(new Refused("next(2)", -7, x -> x.next(2)));
        all.add(new Refused("skip(8, 1)", -2, x -> x.skip(8, 1)));
        all.add(new Refused("skip(0, 0)", -2, x -> x.skip(0, 0)));
        all.add(new Refused("skip(3, 0), -2 before -3", -2, x -> x.skip(3, 0)));
        all.add(new Refused("skip(3, 2^21), -2 before -3", -2, x -> x.skip(3, TOO_GREAT)));
        all.add(new Refused("skip(1, 0), -2 before -7", -2, x -> x.skip(1, 0)));
        all.add(new Refused("skip(2, 2^21), -2 before -7", -2, x -> x.skip(2, TOO_GREAT)));
        all.add(new Refused("skip(-1, 2^21 - 1), -2 before -7", -2, x -> x.skip(-1, TOO_GREAT - 1)));
        all.add(new Refused("skip(3, 2^21 - 1), -3 before -7", -3, x -> x.skip(3, TOO_GREAT - 1)));
        all.add(new Refused("skip(0, 2^21 - 1)", -7, x -> x.skip(0, TOO_GREAT - 1)));
        all.add(new Refused("skip(1, 999)", -7, x -> x.skip(1, 999)));
        all.add(new Refused("skip(2, 1)", -7, x -> x.skip(2, 1)));
    }

    /** Each number that may be wrong, with a good key, an empty one and one of another usage. */
    private static void addPins(List<Refused> all) {
        for (int k : new int[] {0, 16, 10, 19, 1, 2}) {
            String key = "pin of key " + k;
            all.add(new Refused(key + ", format 2", -2, x -> x.pin(k, 36, ACCOUNT, 0x1234, -1)));
            all.add(new Refused(key + ", length 3", -2, x -> x.pin(k, 3, ACCOUNT, 0x123, -1)));
            all.add(new Refused(key + ", account", -2, x -> x.pin(k, 4, ACCOUNT | 15, 0x1234, -1)));
            all.add(new Refused(key + ", a digit 10", -2, x -> x.pin(k, 4, ACCOUNT, 0xa234, -1)));
            all.add(new Refused(key + ", a digit more", -2, x -> x.pin(k, 4, ACCOUNT, 0x12345, -1)));
            all.add(new Refused(key + ", fill", -2, x -> x.pin(k, 52, ACCOUNT, 0x1234, 9)));
        }
        all.add(new Refused("pin of key -1", -2, x -> x.pin(-1, 4, ACCOUNT, 0x1234, 0)));
        all.add(new Refused("pin of key 24", -2, x -> x.pin(24, 4, ACCOUNT, 0x1234, 0)));
        all.add(new Refused("pin of key 10", -3, x -> x.pin(10, 4, ACCOUNT, 0x1234, 0)));
        all.add(new Refused("pin of key 19", -3, x -> x.pin(19, 4, ACCOUNT, 0x1234, 0)));
        for (int k = 1; k < 4; k++) {
            int other = k;
            all.add(new Refused("pin of key " + k, -4, x -> x.pin(other, 4, ACCOUNT, 0x1234, 0)));
        }
    }

    /** Each number that may be wrong, with good keys, empty ones, ones of another usage, and a block that is wrong. */
    private static void addTranslations(List<Refused> all) {
        for (int[] keys : new int[][] {{0, 4}, {10, 4}, {0, 19}, {1, 4}, {0, 2}, {1, 10}, {4, 0}}) {
            int from = keys[0];
            int to = keys[1];
            String call = "translate from " + from + " to " + to;
            all.add(new Refused(call + ", of format 2", -2, x -> x.translate(from, to, 32, ACCOUNT, -1)));
            all.add(new Refused(call + ", to format 2", -2, x -> x.translate(from, to, 2, ACCOUNT, -1)));
            all.add(new Refused(call + ", account", -2, x -> x.translate(from, to, 0, ACCOUNT | 15, -1)));
            all.add(new Refused(call + ", fill", -2, x -> x.translate(from, to, 3, ACCOUNT, 0)));
            all.add(new Refused(call + ", fill, a wrong block", -2, x -> x.translate(from, to, 16 + 3, ACCOUNT, 0)));
        }
        for (int other : new int[] {0, 10, 1}) {
            all.add(new Refused("translate from -1 to " + other, -2, x -> x.translate(-1, other, 0, ACCOUNT, 0)));
            all.add(new Refused("translate from 24 to " + other, -2, x -> x.translate(24, other, 0, ACCOUNT, 0)));
            all.add(new Refused("translate from " + other + " to -1", -2, x -> x.translate(other, -1, 0, ACCOUNT, 0)));
            all.add(new Refused("translate from " + other + " to 24", -2, x -> x.translate(other, 24, 0, ACCOUNT, 0)));
        }
    }

    private static void addTranslationPairs(List<Refused> all) {
        for (int[] keys : new int[][] {{10, 0}, {19, 0}, {0, 10}, {0, 19}, {10, 1}, {1, 10}, {19, 2}, {2, 19}, {10, 19}}) {
            String call = "translate from " + keys[0] + " to " + keys[1];
            all.add(new Refused(call, -3, x -> x.translate(keys[0], keys[1], 0, ACCOUNT, 0)));
            all.add(new Refused(call + ", -3 before -6", -3, x -> x.translate(keys[0], keys[1], 16, ACCOUNT, 0)));
        }
        for (int[] keys : new int[][] {{0, 1}, {0, 2}, {0, 3}, {1, 0}, {2, 0}, {3, 0}, {1, 2}, {16, 1}, {1, 16}}) {
            String call = "translate from " + keys[0] + " to " + keys[1];
            all.add(new Refused(call, -4, x -> x.translate(keys[0], keys[1], 0, ACCOUNT, 0)));
            all.add(new Refused(call + ", -4 before -6", -4, x -> x.translate(keys[0], keys[1], 16, ACCOUNT, 0)));
        }
        all.add(new Refused("translate of format 1", -6, x -> x.translate(0, 4, 16, ACCOUNT, 0)));
        all.add(new Refused("translate of format 3", -6, x -> x.translate(0, 16, 48, ACCOUNT, 0)));
        all.add(new Refused("translate from another key", -6, x -> x.translate(16, 0, 0, ACCOUNT, 0)));
    }

    /** Each number that may be wrong, with good keys, empty ones and ones of another usage. */
    private static void addVerifications(List<Refused> all) {
        for (int[] keys : new int[][] {{0, 3}, {10, 3}, {0, 10}, {1, 3}, {0, 2}, {1, 10}, {19, 0}}) {
            int k = keys[0];
            int how = 16 * keys[1];
            String call = "verify of key " + k + ", slot " + keys[1];
            all.add(new Refused(call + ", format 2", -2, x -> x.verify(k, how + 2, ACCOUNT, 0)));
            all.add(new Refused(call + ", account", -2, x -> x.verify(k, how, ACCOUNT | 15, 0)));
            all.add(new Refused(call + ", offset -1", -2, x -> x.verify(k, how, ACCOUNT, -1)));
            all.add(new Refused(call + ", offset 65536", -2, x -> x.verify(k, how, ACCOUNT, 65536)));
            all.add(new Refused(call + ", offset 65535", -2, x -> x.verify(k, how, ACCOUNT, 65535)));
            all.add(new Refused(call + ", offset 0xa000", -2, x -> x.verify(k, how, ACCOUNT, 0xa000)));
            all.add(new Refused(call + ", offset 0x000a", -2, x -> x.verify(k, how, ACCOUNT, 0x000a)));
        }
        for (int slot : new int[] {3, 10, 0}) {
            all.add(new Refused("verify of key -1, slot " + slot, -2, x -> x.verify(-1, 16 * slot, ACCOUNT, 0)));
            all.add(new Refused("verify of key 24, slot " + slot, -2, x -> x.verify(24, 16 * slot, ACCOUNT, 0)));
        }
        for (int k : new int[] {0, 10, 1}) {
            all.add(new Refused("verify of key " + k + ", slot 16", -2, x -> x.verify(k, 256, ACCOUNT, 0)));
            all.add(new Refused("verify of key " + k + ", slot -1", -2, x -> x.verify(k, -16, ACCOUNT, 0)));
        }
    }

    private static void addVerificationPairs(List<Refused> all) {
        for (int[] keys : new int[][] {{10, 3}, {19, 3}, {0, 10}, {10, 0}, {19, 1}, {1, 10}, {10, 11}}) {
            String call = "verify of key " + keys[0] + ", slot " + keys[1];
            all.add(new Refused(call, -3, x -> x.verify(keys[0], 16 * keys[1], ACCOUNT, 0)));
            all.add(new Refused(call + ", -3 before -6", -3, x -> x.verify(keys[0], 16 * keys[1] + 1, ACCOUNT, 0)));
        }
        for (int[] keys : new int[][] {{1, 3}, {2, 3}, {3, 3}, {0, 0}, {0, 1}, {0, 2}, {16, 0}, {3, 0}}) {
            String call = "verify of key " + keys[0] + ", slot " + keys[1];
            all.add(new Refused(call, -4, x -> x.verify(keys[0], 16 * keys[1], ACCOUNT, 0)));
            all.add(new Refused(call + ", -4 before -6", -4, x -> x.verify(keys[0], 16 * keys[1] + 1, ACCOUNT, 0)));
        }
        all.add(new Refused("verify of format 1", -6, x -> x.verify(0, 48 + 1, ACCOUNT, 0)));
        all.add(new Refused("verify of another PIN", -6, x -> x.verify(0, 48, ACCOUNT, 0)));
        all.add(new Refused("verify of another key", -6, x -> x.verify(17, 48, ACCOUNT, 0)));
    }

    private static void addCodes(List<Refused> all) {
        all.add(new Refused("code(-1, 0)", -2, x -> x.code(-1, 0)));
        all.add(new Refused("code(16, 0)", -2, x -> x.code(16, 0)));
        all.add(new Refused("code(1, -1)", -2, x -> x.code(1, -1)));
        all.add(new Refused("code(1, 65)", -2, x -> x.code(1, 65)));
        all.add(new Refused("code(10, 65), -2 before -3", -2, x -> x.code(10, 65)));
        all.add(new Refused("code(0, 65), -2 before -4", -2, x -> x.code(0, 65)));
        all.add(new Refused("code(0, -1), -2 before -4", -2, x -> x.code(0, -1)));
        all.add(new Refused("code(10, 8)", -3, x -> x.code(10, 8)));
        for (int slot : new int[] {0, 2, 3}) {
            all.add(new Refused("code(" + slot + ", 8)", -4, x -> x.code(slot, 8)));
        }
    }
}
