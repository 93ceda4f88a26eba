import java.util.function.Consumer;
import java.util.function.IntFunction;

/**
 * Every set of refusals that are due at once: the earliest one of the document's order is thrown, and nothing is
 * changed. A call's faults stand in that order, and a bit of a number tells each of them.
 */
public final class RefusalOrderTest {
    private static final Checks CHECKS = new Checks("RefusalOrderTest");

    private RefusalOrderTest() {
    }

    public static void main(String[] args) {
        CHECKS.sentence("Refusals, in this order: unknown, range, state, no room, ArithmeticException");
        thing();
        settings();
        ofThings();
        rows();
        life();
        CHECKS.end();
    }

    private static boolean has(int faults, int fault) {
        return (faults >> fault & 1) != 0;
    }

    @SafeVarargs
    private static void all(String what, IntFunction<HoseTests> made, IntFunction<Consumer<HoseTests>> callWith,
                            Class<? extends RuntimeException>... dueOf) {
        for (int faults = 0; faults < 1 << dueOf.length; faults++) {
            String name = what + " with faults " + Integer.toBinaryString(faults);
            int with = faults;
            Consumer<HoseTests> call = callWith.apply(faults);
            if (faults == 0) {
                CHECKS.taken(name, () -> call.accept(made.apply(0)));
            } else {
                CHECKS.refused(name, dueOf[Integer.numberOfTrailingZeros(faults)], () -> made.apply(with), call);
            }
        }
    }

    @SafeVarargs
    private static void all(String what, IntFunction<Consumer<HoseTests>> callWith,
                            Class<? extends RuntimeException>... dueOf) {
        all(what, faults -> Stock.make(), callWith, dueOf);
    }

    private static void thing() {
        for (int beyond : new int[] {-1, 1_000_000, Integer.MIN_VALUE, Integer.MAX_VALUE}) {
            all("thing", faults -> has(faults, 7) ? Stock.makeFull() : Stock.make(), faults -> s -> {
                int told = has(faults, 6) ? Stock.SERIAL : 0;
                int right = has(faults, 6) ? 'H' : 'A';
                s.thing(has(faults, 0) ? 5 : 4, has(faults, 3) ? beyond : told, has(faults, 5) ? 'B' : right,
                    has(faults, 1) ? 10 : 9, has(faults, 2) ? 20 : 19, has(faults, 4) ? Stock.TODAY + 1 : Stock.TODAY);
            }, Checks.UNKNOWN, Checks.UNKNOWN, Checks.UNKNOWN, Checks.RANGE, Checks.RANGE, Checks.STATE, Checks.STATE,
                Checks.NO_ROOM);
        }
        all("thing, all below", faults -> s -> s.thing(has(faults, 0) ? -1 : 0, has(faults, 3) ? -1 : 0, 'A',
            has(faults, 1) ? -1 : 0, has(faults, 2) ? -1 : 0, has(faults, 4) ? -1 : 0),
            Checks.UNKNOWN, Checks.UNKNOWN, Checks.UNKNOWN, Checks.RANGE, Checks.RANGE);
    }

    private static void settings() {
        all("age", faults -> s -> s.age(has(faults, 0) ? 5 : 4, has(faults, 1) ? 20_001 : 20_000),
            Checks.UNKNOWN, Checks.RANGE);
        all("age, below", faults -> s -> s.age(has(faults, 0) ? -1 : 0, has(faults, 1) ? -1 : 0),
            Checks.UNKNOWN, Checks.RANGE);
        all("test", faults -> s -> s.test(has(faults, 0) ? 5 : 4, has(faults, 1) ? 3 : 2,
            has(faults, 2) ? 5_001 : 5_000, has(faults, 3) ? 1_001 : 1_000),
            Checks.UNKNOWN, Checks.UNKNOWN, Checks.RANGE, Checks.RANGE);
        all("test, below", faults -> s -> s.test(has(faults, 0) ? -1 : 0, has(faults, 1) ? -1 : 0,
            has(faults, 2) ? -1 : 0, has(faults, 3) ? -1 : 0),
            Checks.UNKNOWN, Checks.UNKNOWN, Checks.RANGE, Checks.RANGE);
        all("bounds", faults -> s -> s.bounds(has(faults, 0) ? 5 : 4, has(faults, 1) ? 3 : 2,
            has(faults, 2) ? -1 : 0, has(faults, 3) ? 10_001 : 10_000),
            Checks.UNKNOWN, Checks.UNKNOWN, Checks.RANGE, Checks.RANGE);
        all("bounds, low above pass", faults -> s -> s.bounds(has(faults, 0) ? -1 : 0, has(faults, 1) ? -1 : 0,
            has(faults, 2) ? 8 : 7, 7),
            Checks.UNKNOWN, Checks.UNKNOWN, Checks.RANGE);
        all("plan", faults -> s -> s.plan(0L, 0, has(faults, 0) ? 7 : 6, has(faults, 1) ? 0 : 1),
            Checks.RANGE, Checks.RANGE);
    }

    private static void ofThings() {
        all("result", faults -> s -> s.result(
            has(faults, 0) ? Stock.COUNT : has(faults, 3) ? Stock.SCRAPPED : Stock.FIT,
            has(faults, 1) ? 3 : 2, has(faults, 2) ? 10_001 : 10_000),
            Checks.UNKNOWN, Checks.UNKNOWN, Checks.RANGE, Checks.STATE);
        all("result, below", faults -> s -> s.result(
            has(faults, 0) ? -1 : has(faults, 3) ? Stock.SCRAPPED : Stock.FIT,
            has(faults, 1) ? -1 : 0, has(faults, 2) ? -1 : 0),
            Checks.UNKNOWN, Checks.UNKNOWN, Checks.RANGE, Checks.STATE);
        int[] barred = {Stock.SCRAPPED, Stock.IN_RECALLED_BATCH, Stock.MENDED, Stock.WET};
        for (int thing : barred) {
            all("load", faults -> s -> s.load(
                has(faults, 0) ? Stock.COUNT : has(faults, 2) ? thing : Stock.FIT, has(faults, 1) ? 20 : 19),
                Checks.UNKNOWN, Checks.UNKNOWN, Checks.STATE);
            all("load, below", faults -> s -> s.load(
                has(faults, 0) ? -1 : has(faults, 2) ? thing : Stock.FIT, has(faults, 1) ? -1 : 0),
                Checks.UNKNOWN, Checks.UNKNOWN, Checks.STATE);
        }
        all("thingAt", faults -> s -> s.thingAt(has(faults, 0) ? Stock.COUNT : 0, has(faults, 1) ? 11 : 10),
            Checks.UNKNOWN, Checks.UNKNOWN);
    }

    private static void rows() {
        all("recalled", faults -> s -> s.recalled(has(faults, 0) ? 10 : 9, has(faults, 1) ? -1 : 0),
            Checks.UNKNOWN, Checks.RANGE);
        all("recalled, below", faults -> s -> s.recalled(has(faults, 0) ? -1 : 0, has(faults, 1) ? -1 : 0),
            Checks.UNKNOWN, Checks.RANGE);
        all("soon", faults -> s -> s.soon(has(faults, 0) ? 20 : 19, has(faults, 1) ? 30_001 : 30_000,
            has(faults, 2) ? -1 : 0),
            Checks.UNKNOWN, Checks.RANGE, Checks.RANGE);
        all("soon, below", faults -> s -> s.soon(has(faults, 0) ? -1 : 0, has(faults, 1) ? -1 : 0,
            has(faults, 2) ? -1 : 0),
            Checks.UNKNOWN, Checks.RANGE, Checks.RANGE);
    }

    private static void life() {
        all("life", faults -> s -> s.life(has(faults, 0) ? 5 : has(faults, 2) ? 4 : 0, has(faults, 1) ? 2 : 1),
            Checks.UNKNOWN, Checks.UNKNOWN, Checks.ARITHMETIC);
        all("life, below", faults -> s -> s.life(has(faults, 0) ? -1 : has(faults, 2) ? 4 : 0,
            has(faults, 1) ? -1 : 0),
            Checks.UNKNOWN, Checks.UNKNOWN, Checks.ARITHMETIC);
    }
}
