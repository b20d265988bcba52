import java.util.ArrayList;
import java.util.List;

/** All that calls can tell of a sealed module, to see whether two are in the same state. */
final class Seen {
    private Seen() {
    }

    /** Takes some 150 of an object's 512 calls, and changes it. */
    static List<Long> of(PinModule x) {
        List<Long> seen = buffer(x);
        for (int k = 0; k < 24; k++) {
            seen.add((long) x.check(k));
        }
        for (int slot = 0; slot < 16; slot++) {
            seen.add((long) x.usage(slot));
            seen.add((long) x.code(slot, 64));
            seen.add(x.peek(0));
        }
        for (int slot = 0; slot < 16; slot++) {
            seen.add((long) x.wrap(slot));
            seen.addAll(buffer(x));
        }
        for (int t = 0; t < 8; t++) {
            seen.add((long) x.next(t));
        }
        return seen;
    }

    static List<Long> buffer(PinModule x) {
        List<Long> longs = new ArrayList<>();
        for (int k = 0; k < 5; k++) {
            longs.add(x.peek(k));
        }
        return longs;
    }
}
