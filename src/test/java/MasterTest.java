/** Promises 1 to 3: a new object, component, seal. */
public final class MasterTest {
    private static final Due due = new Due("master");

    public static void main(String[] args) {
        newObject();
        unsealedRefusals();
        components();
        seals();
        due.end();
    }

    private static void newObject() {
        PinModule x = new PinModule();
        for (int k = 0; k < 5; k++) {
            due.is("promise 1: peek(" + k + ")", x.peek(k), 0);
        }
        due.refusesState("promise 1: seal() of a new object", x::seal);
        PinModule sealed = Made.sealedModule();
        for (int s = 0; s < 16; s++) {
            due.is("promise 1: usage(" + s + ")", sealed.usage(s), -3);
        }
        for (int k = 0; k < 24; k++) {
            due.is("promise 1: check(" + k + ")", sealed.check(k), -3);
        }
    }

    private static void unsealedRefusals() {
        PinModule x = new PinModule();
        due.is("load", x.load(99, 99, true), -1);
        due.is("clear", x.clear(-1), -1);
        due.is("usage", x.usage(0), -1);
        due.is("wrap", x.wrap(16), -1);
        due.is("unwrap", x.unwrap(0), -1);
        due.is("terminal", x.terminal(8, 0, -1), -1);
        due.is("next", x.next(0), -1);
        due.is("skip", x.skip(0, 0), -1);
        due.is("skip", x.skip(8, 1), -1);
        due.is("check", x.check(24), -1);
        due.is("pin", x.pin(0, 2, -1, -1, 0), -1);
        due.is("translate", x.translate(0, 0, 0, 0, 0), -1);
        due.is("verify", x.verify(0, 0, 0, -1), -1);
        due.is("code", x.code(0, 65), -1);
        due.is("code", x.code(16, 0), -1);
    }

    private static void components() {
        PinModule x = new PinModule();
        int[][] wrong = {{-1, 0}, {3, 0}, {0, -1}, {0, 2}, {Integer.MAX_VALUE, 0}, {0, Integer.MIN_VALUE}};
        for (int[] pair : wrong) {
            due.refusesArgument("promise 2: component(" + pair[0] + ", " + pair[1] + ")",
                    () -> x.component(pair[0], pair[1], 0));
        }
        PinModule sealed = Made.sealedModule();
        due.refusesArgument("promise 2: a wrong component comes before sealed", () -> sealed.component(3, 0, 0));
        due.refusesArgument("promise 2: a wrong half comes before sealed", () -> sealed.component(0, 2, 0));
        due.refusesState("promise 2: component when sealed", () -> sealed.component(0, 0, 0));
    }

    private static void seals() {
        for (int missing = 0; missing < 6; missing++) {
            PinModule x = new PinModule();
            for (int half = 0; half < 6; half++) {
                if (half != missing) {
                    x.component(half / 2, half % 2, 1L << 8 * half);
                }
            }
            due.refusesState("promise 3: seal() without half " + missing, x::seal);
            x.component(missing / 2, missing % 2, 77);
            x.component(missing / 2, missing % 2, 1L << 8 * missing);
            long left = 1L | 1L << 16 | 1L << 32;
            long right = 1L << 8 | 1L << 24 | 1L << 40;
            due.is("promises 2 and 3: seal(), half " + missing + " told again", x.seal(), Jce.checkValue(left, right));
            due.refusesState("promise 3: seal() again", x::seal);
        }
        masterOfZeros();
    }

    private static void masterOfZeros() {
        PinModule x = new PinModule();
        for (int half = 0; half < 6; half++) {
            x.component(half / 2, half % 2, 0);
        }
        due.is("promise 3: the master key of zeros", x.seal(), 0x8ca64d);
    }
}
