import java.util.function.Consumer;
import java.util.function.Function;
import java.util.function.Supplier;

/** Compares answers with those that are due, and ends a test with exit code 1 if one was wrong. */
final class Checks {
    static final Class<IllegalArgumentException> UNKNOWN = IllegalArgumentException.class;
    static final Class<IndexOutOfBoundsException> RANGE = IndexOutOfBoundsException.class;
    static final Class<IllegalStateException> STATE = IllegalStateException.class;
    static final Class<UnsupportedOperationException> NO_ROOM = UnsupportedOperationException.class;
    static final Class<ArithmeticException> ARITHMETIC = ArithmeticException.class;

    private final String name;
    private int done = 0;
    private int wrong = 0;

    Checks(String name) {
        this.name = name;
    }

    void same(String what, Object got, Object want) {
        done++;
        if (!got.equals(want)) {
            wrong++;
            System.out.println(name + ": " + what + " answered " + got + ", due is " + want);
        }
    }

    /** The calls must throw just this class, and leave an object that answers as one without them. */
    void refused(String what, Class<? extends RuntimeException> due, Supplier<HoseTests> made,
                 Consumer<HoseTests> call) {
        HoseTests called = made.get();
        same(what, thrownBy(() -> call.accept(called)), due.getSimpleName());
        same("after " + what + " all", Stock.tell(called), Stock.tell(made.get()));
    }

    void refused(String what, Class<? extends RuntimeException> due, Consumer<HoseTests> call) {
        refused(what, due, Stock::make, call);
    }

    /** One call with each of the numbers, every one refused alike. */
    void refusedEach(String what, Class<? extends RuntimeException> due,
                     Function<Integer, Consumer<HoseTests>> callWith, int... numbers) {
        for (int number : numbers) {
            refused(what + " with " + number, due, callWith.apply(number));
        }
    }

    static String thrownBy(Runnable call) {
        try {
            call.run();
            return "nothing";
        } catch (RuntimeException e) {
            return e.getClass().getSimpleName();
        }
    }

    void end() {
        System.out.println(name + ": " + done + " checks, " + wrong + " wrong");
        if (wrong != 0 || done == 0) {
            System.exit(1);
        }
    }
}
