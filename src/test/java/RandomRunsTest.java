import java.util.Random;
import java.util.function.LongSupplier;

/** All promises: runs of calls at random, each answer and the whole buffer held against the model. */
public final class RandomRunsTest {
    private static final int RUNS = 300;
    /** Five peeks follow each call, and an object is used for 512 calls at most. */
    private static final int CALLS = 70;
    private static final long THROWN_ARGUMENT = Long.MIN_VALUE;
    private static final long THROWN_STATE = Long.MIN_VALUE + 1;
    private static final int[] FORMATS = {0, 1, 3};

    private final Due due;
    private final Random random;
    private final PinModule x = new PinModule();
    private final Model model = new Model();
    private String call = "";

    private RandomRunsTest(Due due, long seed) {
        this.due = due;
        this.random = new Random(seed);
    }

    public static void main(String[] args) {
        Due due = new Due("random runs");
        int[] seen = new int[8];
        for (int run = 0; run < RUNS; run++) {
            new RandomRunsTest(due, run).run(run, seen);
        }
        for (int refusal = 1; refusal <= 7; refusal++) {
            due.holds("refusal -" + refusal + " came up", seen[refusal] > 0);
        }
        due.end();
    }

    private void run(int run, int[] seen) {
        int sealAt = run % 10 == 0 ? CALLS / 2 : 0;
        for (int i = 0; i < CALLS; i++) {
            if (i == sealAt) {
                sealBoth();
            }
            int kind = random.nextInt(40);
            long[] answers = step(kind);
            due.is("run " + run + ", call " + i + ": " + call, answers[0], answers[1]);
            for (int k = 0; k < 5; k++) {
                due.is("run " + run + ", peek(" + k + ") after " + call, x.peek(k), model.buffer[k]);
            }
            if (answers[1] < 0 && answers[1] >= -7) {
                seen[(int) -answers[1]]++;
            }
        }
    }

    private void sealBoth() {
        for (int half = 0; half < 6; half++) {
            long value = random.nextLong();
            x.component(half / 2, half % 2, value);
            model.component(half / 2, half % 2, value);
        }
        due.is("seal()", x.seal(), model.seal());
    }

    private static long answer(LongSupplier call) {
        try {
            return call.getAsLong();
        } catch (IllegalArgumentException e) {
            return THROWN_ARGUMENT;
        } catch (IllegalStateException e) {
            return THROWN_STATE;
        }
    }

    private long[] both(String name, LongSupplier got, LongSupplier want) {
        call = name;
        return new long[] {answer(got), answer(want)};
    }

    private static LongSupplier silent(Runnable call) {
        return () -> {
            call.run();
            return 0;
        };
    }

    private int rarely(int usual, int... others) {
        return random.nextInt(20) == 0 ? others[random.nextInt(others.length)] : usual;
    }

    private long anyLong() {
        long[] edges = {0, -1, 1, Long.MIN_VALUE, Long.MAX_VALUE};
        return random.nextInt(5) == 0 ? edges[random.nextInt(edges.length)] : random.nextLong();
    }

    /** Few slots are used, so that most calls find one of a usage; slot s is mostly loaded with usage s % 4. */
    private int slot() {
        return rarely(random.nextInt(8), -1, 15, 16, 9, Integer.MIN_VALUE, Integer.MAX_VALUE);
    }

    private int slotOf(int usage) {
        return rarely(usage + 4 * random.nextInt(2), -1, 0, 1, 2, 3, 8, 16);
    }

    private int terminalNumber() {
        return rarely(random.nextInt(3), -1, 7, 8, Integer.MIN_VALUE);
    }

    private int pinKey() {
        return random.nextBoolean() ? slotOf(0) : rarely(16 + random.nextInt(3), 15, 23, 24, Integer.MAX_VALUE);
    }

    private long digits(int length) {
        long number = 0;
        for (int i = 0; i < length; i++) {
            number = number << 4 | random.nextInt(10);
        }
        return random.nextInt(30) == 0 ? number ^ 15L << 4 * random.nextInt(16) : number;
    }

    private long account() {
        return random.nextInt(2) == 0 ? 0x4321098765432109L : digits(16);
    }

    private long fill() {
        long fill = 0;
        for (int i = 0; i < 16; i++) {
            fill = fill << 4 | 10 + random.nextInt(6);
        }
        return random.nextInt(4) == 0 ? fill ^ 15L << 4 * random.nextInt(16) : fill;
    }

    private int format() {
        return rarely(FORMATS[random.nextInt(3)], -1, 2, 4, 15, 16);
    }

    private long[] step(int kind) {
        if (kind < 6) {
            return tellStep(kind);
        }
        if (kind < 18) {
            return slotStep(kind - 6);
        }
        if (kind < 26) {
            return terminalStep(kind - 18);
        }
        return pinStep(kind - 26);
    }

    private long[] tellStep(int kind) {
        int k = random.nextInt(10) - 1;
        int half = random.nextInt(4) - 1;
        long value = anyLong();
        switch (kind) {
            case 0:
                return both("component(" + k + ", " + half + ", " + value + ")",
                        silent(() -> x.component(k, half, value)), silent(() -> model.component(k, half, value)));
            case 1:
                return both("seal()", x::seal, model::seal);
            case 2:
                return both("poke(" + k + ", " + value + ")", silent(() -> x.poke(k, value)),
                        silent(() -> model.poke(k, value)));
            default:
                return both("message(" + k + ", " + value + ")", silent(() -> x.message(k, value)),
                        silent(() -> model.message(k, value)));
        }
    }

    private long[] slotStep(int kind) {
        int slot = slot();
        int usage = rarely(slot & 3, -1, 0, 1, 2, 3, 4);
        boolean exports = random.nextInt(4) != 0;
        int n = rarely(random.nextInt(65), -1, 0, 64, 65);
        int macSlot = slotOf(1);
        switch (kind) {
            case 0, 1, 2, 3, 4:
                return both("load(" + slot + ", " + usage + ", " + exports + ")", () -> x.load(slot, usage, exports),
                        () -> model.load(slot, usage, exports));
            case 5:
                return both("clear(" + slot + ")", () -> x.clear(slot), () -> model.clear(slot));
            case 6:
                return both("usage(" + slot + ")", () -> x.usage(slot), () -> model.usage(slot));
            case 7, 8:
                return both("wrap(" + slot + ")", () -> x.wrap(slot), () -> model.wrap(slot));
            case 9:
                return both("unwrap(" + slot + ")", () -> x.unwrap(slot), () -> model.unwrap(slot));
            case 10:
                model.wrap(slot);
                x.wrap(slot);
                model.clear(slot);
                x.clear(slot);
                return both("wrap, clear, unwrap(" + slot + ")", () -> x.unwrap(slot), () -> model.unwrap(slot));
            default:
                return both("code(" + macSlot + ", " + n + ")", () -> x.code(macSlot, n), () -> model.code(macSlot, n));
        }
    }

    private long[] terminalStep(int kind) {
        int t = terminalNumber();
        int slot = slotOf(2);
        long serial = random.nextInt(8) == 0 ? anyLong() : random.nextLong() >>> 21;
        int number = rarely(random.nextInt(1 << 1 + random.nextInt(21)), 0, -1, 0x1ff800, 0x1ff801, 1 << 21);
        int k = rarely(random.nextInt(24), -1, 24);
        switch (kind) {
            case 0, 1, 2:
                return both("terminal(" + t + ", " + slot + ", " + serial + ")", () -> x.terminal(t, slot, serial),
                        () -> model.terminal(t, slot, serial));
            case 3, 4:
                return both("next(" + t + ")", () -> x.next(t), () -> model.next(t));
            case 5:
                return both("skip(" + t + ", " + number + ")", () -> x.skip(t, number), () -> model.skip(t, number));
            default:
                return both("check(" + k + ")", () -> x.check(k), () -> model.check(k));
        }
    }

    private long[] pinStep(int kind) {
        int k = pinKey();
        int to = pinKey();
        int length = rarely(4 + random.nextInt(9), 0, 3, 13, 15);
        int format = format();
        int form = 16 * format + length;
        long account = account();
        long pin = digits(length);
        long fill = fill();
        int offset = random.nextInt(4) == 0 ? random.nextInt(1 << 16) : (int) digits(4);
        int slot = slotOf(3);
        switch (kind) {
            case 0, 1, 2, 3:
                return both("pin(" + k + ", " + form + ", " + account + ", " + pin + ", " + fill + ")",
                        () -> x.pin(k, form, account, pin, fill), () -> model.pin(k, form, account, pin, fill));
            case 4, 5, 6:
                return translateStep(k, to, 16 * format + format(), account, fill);
            case 7, 8, 9, 10:
                // a block of the format comes first, so that it is seldom refused for its form
                model.pin(k, form, account, pin, fill);
                x.pin(k, form, account, pin, fill);
                return translateStep(k, to, 16 * format + format(), account, fill);
            case 11, 12:
                long right = model.rightPin(slot, account, offset);
                model.pin(k, 16 * format + 4, account, right, fill);
                x.pin(k, 16 * format + 4, account, right, fill);
                return verifyStep(k, 16 * slot + format, account, offset);
            default:
                return verifyStep(k, 16 * slot + format, account, offset);
        }
    }

    private long[] translateStep(int from, int to, int forms, long account, long fill) {
        return both("translate(" + from + ", " + to + ", " + forms + ", " + account + ", " + fill + ")",
                () -> x.translate(from, to, forms, account, fill), () -> model.translate(from, to, forms, account, fill));
    }

    private long[] verifyStep(int k, int how, long account, int offset) {
        return both("verify(" + k + ", " + how + ", " + account + ", " + offset + ")",
                () -> x.verify(k, how, account, offset), () -> model.verify(k, how, account, offset));
    }
}
