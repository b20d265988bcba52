/** Promises 1 to 3: a new object, component, seal; and MASTER of the Terms. */
public final class MasterTest {
    private static final Due due = new Due("master");

    public static void main(String[] args) {
        due.sentence("Promise 1: Not sealed; no components", MasterTest::newIsNotSealed);
        due.sentence("Promise 1: no slots, terminals", MasterTest::newIsEmpty);
        due.sentence("Promise 1: the buffer 0", MasterTest::newBuffer);
        due.sentence("Promise 2: component n. IllegalArgumentException: no such component", MasterTest::componentNumbers);
        due.sentence("Promise 2: Half (0 L, 1 R). IllegalArgumentException: no such half", MasterTest::halfNumbers);
        due.sentence("Promise 2: Half (0 L, 1 R) of component n", MasterTest::whichHalf);
        due.sentence("Promise 2: (told again: in place of what was)", MasterTest::toldAgain);
        due.sentence("Promise 2: IllegalArgumentException, first; IllegalStateException: it is sealed",
                MasterTest::componentWhenSealed);
        due.sentence("Promise 3: IllegalStateException: halves are missing", MasterTest::halvesMissing);
        due.sentence("Promise 3: IllegalStateException: it is sealed", MasterTest::sealedAlready);
        due.sentence("Terms: seal() makes their sum the master key", MasterTest::sum);
        due.sentence("Promise 3: the check value (the first three bytes of a block 0 sealed)", MasterTest::checkValues);
        due.end();
    }

    private static void newIsNotSealed() {
        PinModule x = new PinModule();
        due.is("usage(0)", x.usage(0), -1);
        due.refusesState("seal()", x::seal);
        due.throwsNothing("component(0, 0, 0)", () -> x.component(0, 0, 0));
    }

    private static void newIsEmpty() {
        PinModule x = Made.sealedModule();
        for (int s = 0; s < 16; s++) {
            due.is("usage(" + s + ")", x.usage(s), -3);
        }
        for (int t = 0; t < 8; t++) {
            due.is("next(" + t + ")", x.next(t), -3);
        }
        for (int k = 0; k < 24; k++) {
            due.is("check(" + k + ")", x.check(k), -3);
        }
    }

    /** Its five longs, and its 64 bytes, which a code alone shows. */
    private static void newBuffer() {
        PinModule x = Made.sealedModule();
        for (int k = 0; k < 5; k++) {
            due.is("peek(" + k + ")", x.peek(k), 0);
        }
        Made.load(x, 0, 1, true, 3, 4);
        x.code(0, 64);
        long untold = x.peek(0);
        for (int k = 0; k < 8; k++) {
            x.message(k, 0);
        }
        x.code(0, 64);
        due.is("the code of a message that was not told", untold, x.peek(0));
    }

    private static void componentNumbers() {
        PinModule x = new PinModule();
        for (int half = 0; half < 2; half++) {
            int h = half;
            for (int n : new int[] {-1, 3, Integer.MIN_VALUE, Integer.MAX_VALUE}) {
                due.refusesArgument("component(" + n + ", " + h + ")", () -> x.component(n, h, 0));
            }
            for (int n = 0; n < 3; n++) {
                int good = n;
                due.throwsNothing("component(" + n + ", " + h + ")", () -> x.component(good, h, 0));
            }
        }
    }

    private static void halfNumbers() {
        PinModule x = new PinModule();
        for (int n = 0; n < 3; n++) {
            int c = n;
            for (int half : new int[] {-1, 2, Integer.MIN_VALUE, Integer.MAX_VALUE}) {
                due.refusesArgument("component(" + c + ", " + half + ")", () -> x.component(c, half, 0));
            }
            due.throwsNothing("component(" + c + ", 0)", () -> x.component(c, 0, 0));
            due.throwsNothing("component(" + c + ", 1)", () -> x.component(c, 1, 0));
        }
    }

    private static PinModule toldAll(long... halves) {
        PinModule x = new PinModule();
        for (int i = 0; i < 6; i++) {
            x.component(i / 2, i % 2, halves[i]);
        }
        return x;
    }

    private static void whichHalf() {
        int mixed = Jce.checkValue(Made.LEFT, Made.RIGHT);
        due.is("halves of component 0", toldAll(Made.LEFT, Made.RIGHT, 0, 0, 0, 0).seal(), mixed);
        due.is("halves of component 1", toldAll(0, 0, Made.LEFT, Made.RIGHT, 0, 0).seal(), mixed);
        due.is("halves of component 2", toldAll(0, 0, 0, 0, Made.LEFT, Made.RIGHT).seal(), mixed);
        due.is("halves of two components", toldAll(0, Made.RIGHT, 0, 0, Made.LEFT, 0).seal(), mixed);
    }

    private static void toldAgain() {
        for (int half = 0; half < 6; half++) {
            PinModule x = toldAll(1L << 9, 1L << 10, 1L << 11, 1L << 12, 1L << 13, 1L << 14);
            x.component(half / 2, half % 2, Made.LEFT);
            long left = (1L << 9 | 1L << 11 | 1L << 13) & ~(1L << 9 + half) ^ (half % 2 == 0 ? Made.LEFT : 0);
            long right = (1L << 10 | 1L << 12 | 1L << 14) & ~(1L << 9 + half) ^ (half % 2 == 1 ? Made.LEFT : 0);
            due.is("half " + half + " told again", x.seal(), Jce.checkValue(left, right));
        }
    }

    /** Right before seal() it throws nothing, right after it does; what is no component throws the same still. */
    private static void componentWhenSealed() {
        PinModule x = Made.toldModule();
        due.throwsNothing("component(2, 1) right before seal()", () -> x.component(2, 1, 9));
        x.seal();
        for (int half = 0; half < 6; half++) {
            int h = half;
            due.refusesState("component when sealed", () -> x.component(h / 2, h % 2, 0));
        }
        due.refusesArgument("component(3, 0) when sealed", () -> x.component(3, 0, 0));
        due.refusesArgument("component(-1, 0) when sealed", () -> x.component(-1, 0, 0));
        due.refusesArgument("component(0, 2) when sealed", () -> x.component(0, 2, 0));
        due.refusesArgument("component(0, -1) when sealed", () -> x.component(0, -1, 0));
    }

    /** With each number of halves told, and with each one as the last: a half that is 0 is told as any other is. */
    private static void halvesMissing() {
        for (int last = 0; last < 6; last++) {
            PinModule x = new PinModule();
            for (int i = 1; i <= 6; i++) {
                due.refusesState("seal() with " + (i - 1) + " halves told", x::seal);
                due.is("it is not sealed by that", x.usage(0), -1);
                int half = (last + i) % 6;
                x.component(half / 2, half % 2, 0);
            }
            due.is("seal() with all told, half " + last + " last", x.seal(), 0x8ca64d);
        }
        PinModule twice = new PinModule();
        for (int i = 0; i < 6; i++) {
            twice.component(i / 4, i % 2, i);
        }
        due.refusesState("seal() with six told of which two were told twice", twice::seal);
    }

    private static void sealedAlready() {
        PinModule x = Made.toldModule();
        due.throwsNothing("seal()", x::seal);
        due.refusesState("seal() again", x::seal);
        due.refusesState("seal() a third time", x::seal);
        due.is("it is sealed still", x.usage(0), -3);
    }

    /** The sum is one without carry, and three that are alike are one of them. */
    private static void sum() {
        long left = Made.LEFT;
        long right = Made.RIGHT;
        due.is("three alike", toldAll(left, right, left, right, left, right).seal(), Jce.checkValue(left, right));
        due.is("two alike", toldAll(left, right, left, right, 0, 0).seal(), Jce.checkValue(0, 0));
        due.is("all bits", toldAll(-1, -1, -1, -1, -1, -1).seal(), Jce.checkValue(-1, -1));
        due.is("the highest bits", toldAll(Long.MIN_VALUE, 2, Long.MIN_VALUE, Long.MIN_VALUE, Long.MIN_VALUE, 0).seal(),
                Jce.checkValue(Long.MIN_VALUE, Long.MIN_VALUE | 2));
    }

    /** Three bytes are never negative: there are keys whose first byte is small, and ones whose is 128 and above. */
    private static void checkValues() {
        int least = Integer.MAX_VALUE;
        int greatest = Integer.MIN_VALUE;
        for (int i = 0; i < 100; i++) {
            int value = toldAll(Made.LEFT * i, Made.RIGHT * i, 0, 0, 0, 0).seal();
            due.is("check value " + i, value, Jce.checkValue(Made.LEFT * i, Made.RIGHT * i));
            least = Math.min(least, value);
            greatest = Math.max(greatest, value);
        }
        due.holds("a small one was among them", least >= 0 && least < 0x080000);
        due.holds("a great one was among them", greatest > 0xf00000 && greatest < 0x1000000);
    }
}
