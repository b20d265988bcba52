import java.util.List;
import java.util.function.ToIntFunction;

/** Promises 4 to 6: poke, peek, message; and BUFFER of the Terms. */
public final class BufferTest {
    private static final Due due = new Due("buffer");

    public static void main(String[] args) {
        due.sentence("Promise 4: Long k (0 .. 4). IllegalArgumentException: there is none such", BufferTest::pokeNumbers);
        due.sentence("Promise 5: It. Likewise.", BufferTest::peekNumbers);
        due.sentence("Promise 5: It.", BufferTest::peeked);
        due.sentence("Promise 6: (k 0 .. 7). IllegalArgumentException: there are none such", BufferTest::messageNumbers);
        due.sentence("Promise 6: Eight bytes of the message, from 8 * k on", BufferTest::messageBytes);
        due.sentence("Terms: BUFFER: 64 bytes, and 5 longs", BufferTest::apart);
        due.sentence("Terms: longs that a call does not fill stay", BufferTest::stay);
        due.sentence("Terms: and all when it is refused", BufferTest::stayWhenRefused);
        due.end();
    }

    private static PinModule[] unsealedAndSealed() {
        return new PinModule[] {new PinModule(), Made.sealedModule()};
    }

    private static void pokeNumbers() {
        for (PinModule x : unsealedAndSealed()) {
            for (int k : new int[] {-1, 5, Integer.MIN_VALUE, Integer.MAX_VALUE}) {
                due.refusesArgument("poke(" + k + ")", () -> x.poke(k, 0));
            }
            for (int k = 0; k < 5; k++) {
                int good = k;
                due.throwsNothing("poke(" + k + ")", () -> x.poke(good, 0));
            }
        }
    }

    private static void peekNumbers() {
        for (PinModule x : unsealedAndSealed()) {
            for (int k : new int[] {-1, 5, Integer.MIN_VALUE, Integer.MAX_VALUE}) {
                due.refusesArgument("peek(" + k + ")", () -> x.peek(k));
            }
            for (int k = 0; k < 5; k++) {
                due.is("peek(" + k + ")", x.peek(k), 0);
            }
        }
    }

    private static void peeked() {
        for (PinModule x : unsealedAndSealed()) {
            for (int k = 0; k < 5; k++) {
                x.poke(k, -k);
            }
            for (int told = 0; told < 5; told++) {
                for (long value : new long[] {Long.MIN_VALUE, Long.MAX_VALUE, -1, 1, 0, -told}) {
                    x.poke(told, value);
                    for (int k = 0; k < 5; k++) {
                        due.is("peek(" + k + ") after poke(" + told + ")", x.peek(k), k == told ? value : -k);
                    }
                }
            }
        }
    }

    private static void messageNumbers() {
        for (PinModule x : unsealedAndSealed()) {
            for (int k : new int[] {-1, 8, Integer.MIN_VALUE, Integer.MAX_VALUE}) {
                due.refusesArgument("message(" + k + ")", () -> x.message(k, 0));
            }
            for (int k = 0; k < 8; k++) {
                int good = k;
                due.throwsNothing("message(" + k + ")", () -> x.message(good, 0));
            }
        }
    }

    /** A byte of long k changes the code of 8 * k + 8 bytes, and not that of 8 * k; the first one is the highest. */
    private static void messageBytes() {
        PinModule x = Made.withKeys();
        for (int k = 0; k < 8; k++) {
            for (int n : new int[] {8 * k, 8 * k + 1, 8 * k + 7, 8 * k + 8}) {
                x.message(k, 0);
                x.code(1, n);
                long before = x.peek(0);
                x.message(k, 1);
                x.code(1, n);
                due.holds("the last byte of long " + k + " is one of " + n, (x.peek(0) != before) == (n == 8 * k + 8));
                x.message(k, 1L << 56);
                x.code(1, n);
                due.holds("the first byte of long " + k + " is one of " + n, (x.peek(0) != before) == (n > 8 * k));
                x.message(k, 0);
            }
        }
    }

    private static void apart() {
        PinModule x = Made.withKeys();
        x.code(1, 64);
        long code = x.peek(0);
        for (int k = 0; k < 5; k++) {
            x.poke(k, 60 + k);
        }
        x.code(1, 64);
        due.is("longs are no bytes of the message: its code", x.peek(0), code);
        for (int k = 0; k < 8; k++) {
            x.message(k, 1);
        }
        due.is("bytes of the message are no longs: peek(0)", x.peek(0), code);
        for (int k = 1; k < 5; k++) {
            due.is("bytes of the message are no longs: peek(" + k + ")", x.peek(k), 60 + k);
        }
    }

    private record Filling(String call, int from, ToIntFunction<PinModule> run) {
    }

    /** From which long on the buffer stays, for each call that is not refused by Made.inUse(). */
    private static List<Filling> fillings() {
        return List.of(
                new Filling("load", 0, x -> x.load(9, 0, true)),
                new Filling("clear", 0, x -> x.clear(0)),
                new Filling("usage", 0, x -> x.usage(0)),
                new Filling("wrap", 5, x -> x.wrap(0)),
                new Filling("terminal", 0, x -> x.terminal(7, 6, 1)),
                new Filling("next", 0, x -> x.next(0)),
                new Filling("skip", 0, x -> x.skip(0, 77)),
                new Filling("check of a slot", 0, x -> x.check(0)),
                new Filling("check of a terminal", 0, x -> x.check(17)),
                new Filling("pin", 1, x -> x.pin(0, 5, 0, 0x12345, 0)),
                new Filling("pin of a terminal", 1, x -> x.pin(17, 5, 0, 0x12345, 0)),
                new Filling("translate", 1, x -> x.translate(0, 4, 0, Made.ACCOUNT, 0)),
                new Filling("code", 1, x -> x.code(1, 9)));
    }

    private static void stay() {
        for (Filling filling : fillings()) {
            PinModule x = Made.inUse();
            List<Long> before = Seen.buffer(x);
            int answer = filling.run.applyAsInt(x);
            due.holds(filling.call + " is not refused, it answered " + answer, answer >= 0);
            for (int k = 0; k < 5; k++) {
                boolean same = x.peek(k) == before.get(k);
                due.holds(filling.call + ", long " + k + " stays: " + same, same == (k >= filling.from));
            }
        }
        unwrapAndVerifyStay();
    }

    /** These two look at the buffer, so each needs its own. */
    private static void unwrapAndVerifyStay() {
        PinModule x = Made.inUse();
        x.wrap(0);
        List<Long> block = Seen.buffer(x);
        due.is("unwrap", x.unwrap(9), 0);
        due.holds("unwrap, all longs stay", Seen.buffer(x).equals(block));
        PinModule y = Made.inUse();
        y.pin(0, 4, Made.ACCOUNT, Natural.rightPin(3, Made.ACCOUNT, 0x1234), 0);
        List<Long> before = Seen.buffer(y);
        due.is("verify", y.verify(0, 48, Made.ACCOUNT, 0x1234), 0);
        due.holds("verify, all longs stay", Seen.buffer(y).equals(before));
    }

    private static void stayWhenRefused() {
        for (Refused refused : Refused.all()) {
            PinModule x = Made.inUse();
            List<Long> before = Seen.buffer(x);
            int answer = refused.run().applyAsInt(x);
            due.holds(refused.call() + " is refused, all longs stay", answer < 0 && Seen.buffer(x).equals(before));
        }
    }
}
