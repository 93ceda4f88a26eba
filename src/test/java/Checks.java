import java.util.ArrayList;
import java.util.List;
import java.util.function.Consumer;
import java.util.function.IntFunction;
import java.util.function.Supplier;

/** Compares answers with those that are due, and ends a test with exit code 1 if one was wrong. */
final class Checks {
    static final Class<IllegalArgumentException> UNKNOWN = IllegalArgumentException.class;
    static final Class<IndexOutOfBoundsException> RANGE = IndexOutOfBoundsException.class;
    static final Class<IllegalStateException> STATE = IllegalStateException.class;
    static final Class<UnsupportedOperationException> NO_ROOM = UnsupportedOperationException.class;
    static final Class<ArithmeticException> ARITHMETIC = ArithmeticException.class;

    private static final String NOTHING = "nothing";
    /** So many refused calls, with those that make and tell the stock, stay under an object's 512. */
    private static final int MOST_IN_A_ROW = 90;

    private final String name;
    private final List<Consumer<HoseTests>> refusedOfStock = new ArrayList<>();
    private String sentence = "";
    private int done = 0;
    private int doneBeforeSentence = -1;
    private int wrong = 0;

    Checks(String name) {
        this.name = name;
    }

    /** The checks from here on are of this sentence of the document. */
    void sentence(String words) {
        endSentence();
        sentence = "'" + words + "' ";
        doneBeforeSentence = done;
    }

    private void endSentence() {
        if (done == doneBeforeSentence) {
            wrong++;
            System.out.println(name + ": no check of " + sentence);
        }
    }

    void same(String what, Object got, Object want) {
        done++;
        if (!got.equals(want)) {
            wrong++;
            System.out.println(name + ": " + sentence + what + " answered " + got + ", due is " + want);
        }
    }

    void taken(String what, Runnable call) {
        same(what, thrownBy(call), NOTHING);
    }

    void throwing(String what, Class<? extends RuntimeException> due, Runnable call) {
        same(what, thrownBy(call), due.getSimpleName());
    }

    /** The call must throw just this class, and leave an object that answers as one without it. */
    void refused(String what, Class<? extends RuntimeException> due, Supplier<HoseTests> made,
                 Consumer<HoseTests> call) {
        HoseTests called = made.get();
        throwing(what, due, () -> call.accept(called));
        same("after " + what + " all", Stock.tell(called), Stock.tell(made.get()));
    }

    void refused(String what, Class<? extends RuntimeException> due, Consumer<HoseTests> call) {
        refused(what, due, Stock::make, call);
        refusedOfStock.add(call);
    }

    /** One call with each of the numbers, every one refused alike. */
    void refusedEach(String what, Class<? extends RuntimeException> due,
                     IntFunction<Consumer<HoseTests>> callWith, int... numbers) {
        for (int number : numbers) {
            refused(what + " " + number, due, callWith.apply(number));
        }
    }

    /** Both ends: the last numbers that are allowed are taken, those beside them and far ones are refused. */
    void ends(String what, int least, int most, Class<? extends RuntimeException> due,
              IntFunction<Consumer<HoseTests>> callWith) {
        for (int number : new int[] {least, most}) {
            taken(what + " " + number, () -> callWith.apply(number).accept(Stock.make()));
        }
        refusedEach(what, due, callWith, least - 1, Integer.MIN_VALUE);
        if (most != Integer.MAX_VALUE) {
            refusedEach(what, due, callWith, most + 1, Integer.MAX_VALUE);
        }
    }

    static String thrownBy(Runnable call) {
        try {
            call.run();
            return NOTHING;
        } catch (RuntimeException e) {
            return e.getClass().getSimpleName();
        }
    }

    void end() {
        endSentence();
        refuseInARow();
        System.out.println(name + ": " + done + " checks, " + wrong + " wrong");
        if (wrong != 0 || done == 0) {
            System.exit(1);
        }
    }

    /** Every call of this test that the stock refused, once more, one behind the other on one object. */
    private void refuseInARow() {
        sentence = "";
        for (int from = 0; from < refusedOfStock.size(); from += MOST_IN_A_ROW) {
            int to = Math.min(from + MOST_IN_A_ROW, refusedOfStock.size());
            HoseTests called = Stock.make();
            for (Consumer<HoseTests> call : refusedOfStock.subList(from, to)) {
                thrownBy(() -> call.accept(called));
            }
            same("after refused calls in a row all", Stock.tell(called), Stock.tell(Stock.make()));
        }
    }
}
