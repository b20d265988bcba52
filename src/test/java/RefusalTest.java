import java.util.List;
import java.util.function.Consumer;
import java.util.function.ToIntFunction;

/** What the Terms say of refusals: -1 until it is sealed, their order, and what a refused call leaves as it was. */
public final class RefusalTest {
    private static final Due due = new Due("refusals");

    public static void main(String[] args) {
        due.sentence("Until then all other calls that answer refusals answer -1.", RefusalTest::untilSealed);
        due.sentence("REFUSALS, the first that holds in this order: -1 not sealed", RefusalTest::notSealedComesFirst);
        due.sentence("REFUSALS, the first that holds in this order, whatever a call looks at first", RefusalTest::order);
        due.sentence("A refused call changes nothing.", RefusalTest::changesNothing);
        due.sentence("A refused call changes nothing. (-1)", RefusalTest::notSealedChangesNothing);
        due.sentence("A refused call changes nothing. (thrown)", RefusalTest::thrownChangesNothing);
        due.end();
    }

    private record Good(String call, ToIntFunction<PinModule> run) {
    }

    /** Every call that answers refusals, as a module with nothing in it would answer least of all refusals to it. */
    private static List<Good> goodCalls() {
        return List.of(
                new Good("load", x -> x.load(0, 0, true)),
                new Good("clear", x -> x.clear(0)),
                new Good("usage", x -> x.usage(0)),
                new Good("wrap", x -> x.wrap(0)),
                new Good("unwrap", x -> x.unwrap(0)),
                new Good("terminal", x -> x.terminal(0, 0, 0)),
                new Good("next", x -> x.next(0)),
                new Good("skip", x -> x.skip(0, 1)),
                new Good("check", x -> x.check(0)),
                new Good("pin", x -> x.pin(0, 4, 0, 0x1234, 0)),
                new Good("translate", x -> x.translate(0, 0, 0, 0, 0)),
                new Good("verify", x -> x.verify(0, 0, 0, 0)),
                new Good("code", x -> x.code(0, 0)));
    }

    /** With nothing told, with all told and not sealed, and, at the other side, right after seal(). */
    private static void untilSealed() {
        for (Good good : goodCalls()) {
            due.is(good.call + " of a new object", good.run.applyAsInt(new PinModule()), -1);
            PinModule x = Made.toldModule();
            due.is(good.call + " right before seal()", good.run.applyAsInt(x), -1);
            x.seal();
            int answer = good.run.applyAsInt(x);
            due.holds(good.call + " right after seal() answers something else", answer != -1);
        }
    }

    private static void notSealedComesFirst() {
        for (Refused refused : Refused.all()) {
            due.is(refused.call() + ", not sealed", refused.run().applyAsInt(Made.toldModule()), -1);
        }
    }

    private static void order() {
        PinModule x = Made.inUse();
        for (Refused refused : Refused.all()) {
            due.is(refused.call(), refused.run().applyAsInt(x), refused.due());
        }
    }

    private static void changesNothing() {
        List<Long> asItWas = Seen.of(Made.inUse());
        for (Refused refused : Refused.all()) {
            PinModule x = Made.inUse();
            refused.run().applyAsInt(x);
            due.holds(refused.call() + " changes nothing", Seen.of(x).equals(asItWas));
        }
    }

    private static void notSealedChangesNothing() {
        for (Good good : goodCalls()) {
            PinModule x = Made.toldModule();
            PinModule twin = Made.toldModule();
            fillBuffer(x);
            fillBuffer(twin);
            good.run.applyAsInt(x);
            x.seal();
            twin.seal();
            due.holds(good.call + " changes nothing", Seen.of(x).equals(Seen.of(twin)));
        }
    }

    private static void fillBuffer(PinModule x) {
        for (int k = 0; k < 5; k++) {
            x.poke(k, 90 + k);
        }
    }

    private static void thrownChangesNothing() {
        List<Long> asItWas = Seen.of(Made.inUse());
        seesSame("component(0, 0, 1)", x -> x.component(0, 0, 1), asItWas);
        seesSame("component(3, 0, 1)", x -> x.component(3, 0, 1), asItWas);
        seesSame("seal()", PinModule::seal, asItWas);
        seesSame("poke(5, 1)", x -> x.poke(5, 1), asItWas);
        seesSame("poke(-1, 1)", x -> x.poke(-1, 1), asItWas);
        seesSame("peek(5)", x -> x.peek(5), asItWas);
        seesSame("message(8, 1)", x -> x.message(8, 1), asItWas);
        seesSame("message(-1, 1)", x -> x.message(-1, 1), asItWas);
    }

    private static void seesSame(String call, Consumer<PinModule> run, List<Long> asItWas) {
        PinModule x = Made.inUse();
        boolean thrown = false;
        try {
            run.accept(x);
        } catch (IllegalArgumentException | IllegalStateException e) {
            thrown = true;
        }
        due.holds(call + " throws and changes nothing", thrown && Seen.of(x).equals(asItWas));
    }
}
