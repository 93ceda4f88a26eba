/** Promises 1 to 5: a new object, day, age, test, bounds. */
public final class SettingsTest {
    private static final Checks CHECKS = new Checks("SettingsTest");

    private SettingsTest() {
    }

    public static void main(String[] args) {
        promise1NewObject();
        promise2Day();
        promise3Age();
        promise4Test();
        promise5Bounds();
        CHECKS.end();
    }

    private static void promise1NewObject() {
        HoseTests x = new HoseTests();
        CHECKS.same("barred(0)", Checks.thrownBy(() -> x.barred(0)), "IllegalArgumentException");
        CHECKS.same("recall(0)", x.recall(0, true), 0);
        CHECKS.same("recall(9) off", Checks.thrownBy(() -> x.recall(9, false)), "IllegalStateException");
        CHECKS.same("recalled(0, 0)", x.recalled(0, 0), -1);
        CHECKS.same("soon(0, 30000, 0)", x.soon(0, 30_000, 0), -1);
        CHECKS.same("life(0, 0)", Checks.thrownBy(() -> x.life(0, 0)), "ArithmeticException");
        CHECKS.same("week(0)", Checks.thrownBy(() -> x.week(0)), "IllegalArgumentException");
        CHECKS.same("a thing made on day 1", Checks.thrownBy(() -> Stock.addPlain(x, 0, 0, 1)),
            "IndexOutOfBoundsException");
        CHECKS.same("the first thing", Stock.addPlain(x, 4, 0, 0), 0);
        CHECKS.same("its end, with nothing set", x.ends(0), -1);
        for (int test = 0; test < 3; test++) {
            CHECKS.same("a value of 0, with no bounds", x.result(0, test, 0), 0);
        }
        CHECKS.same("objects apart", Checks.thrownBy(() -> new HoseTests().barred(0)), "IllegalArgumentException");
    }

    private static void promise2Day() {
        HoseTests x = new HoseTests();
        x.day(0);
        x.day(7);
        x.day(7);
        CHECKS.same("made on the day", Stock.addPlain(x, 0, 1, 7), 0);
        x.day(99_999);
        x.day(99_999);
        CHECKS.same("made on the last day", Stock.addPlain(x, 0, 2, 99_999), 1);
        CHECKS.same("behind the last day", Checks.thrownBy(() -> x.day(100_000)), "IndexOutOfBoundsException");
    }

    private static void promise3Age() {
        HoseTests x = new HoseTests();
        Stock.addPlain(x, 1, 1, 0);
        x.age(1, 20_000);
        CHECKS.same("ends with the greatest age", x.ends(0), 20_000);
        x.age(0, 1);
        x.age(2, 1);
        CHECKS.same("ends with other kinds' ages", x.ends(0), 20_000);
        x.age(1, 10);
        x.day(9);
        CHECKS.same("barred the day before", x.barred(0), 0);
        x.day(10);
        CHECKS.same("barred when old", x.barred(0), 3);
        x.age(1, 0);
        CHECKS.same("barred without an age", x.barred(0), 0);
        CHECKS.same("ends without an age", x.ends(0), -1);
        x.age(4, 5);
    }

    private static void promise4Test() {
        for (int test = 0; test < 3; test++) {
            dueByDays(test);
            dueByUses(test);
        }
    }

    private static void dueByDays(int test) {
        HoseTests x = new HoseTests();
        Stock.addPlain(x, 3, 1, 0);
        x.test(3, test, 5_000, 1_000);
        CHECKS.same("ends with the most days", x.ends(0), 5_000);
        x.test(2, test, 1, 1);
        x.test(4, test, 1, 1);
        CHECKS.same("ends with other kinds' tests", x.ends(0), 5_000);
        x.test(3, test, 8, 0);
        x.day(7);
        CHECKS.same("barred the day before", x.barred(0), 0);
        x.day(8);
        CHECKS.same("barred when due", x.barred(0), 4);
        x.result(0, test, 0);
        CHECKS.same("barred after the test", x.barred(0), 0);
        CHECKS.same("ends after the test", x.ends(0), 16);
        x.test(3, test, 0, 0);
        CHECKS.same("ends without days", x.ends(0), -1);
    }

    private static void dueByUses(int test) {
        HoseTests x = new HoseTests();
        Stock.addPlain(x, 3, 1, 0);
        x.test(3, test, 0, 2);
        x.day(1);
        x.use(0);
        CHECKS.same("barred one use before", x.barred(0), 0);
        x.use(0);
        CHECKS.same("barred with its uses", x.barred(0), 4);
        x.test(3, test, 0, 3);
        CHECKS.same("barred with more uses set", x.barred(0), 0);
        x.test(3, test, 0, 1);
        CHECKS.same("barred with fewer uses set", x.barred(0), 4);
        x.test(3, test, 0, 0);
        CHECKS.same("barred with no uses set", x.barred(0), 0);
    }

    private static void promise5Bounds() {
        HoseTests x = new HoseTests();
        for (int serial = 0; serial < 4; serial++) {
            Stock.addPlain(x, 4, serial, 0);
        }
        x.bounds(4, 2, 40, 70);
        x.bounds(3, 2, 9_999, 10_000);
        x.bounds(4, 1, 9_999, 10_000);
        CHECKS.same("the pass bound", x.result(0, 2, 70), 0);
        CHECKS.same("below the pass bound", x.result(1, 2, 69), 1);
        CHECKS.same("the low bound", x.result(2, 2, 40), 1);
        CHECKS.same("below the low bound", x.result(3, 2, 39), 2);
        x.bounds(4, 2, 50, 50);
        CHECKS.same("bounds that are one", x.result(0, 2, 50), 0);
        x.bounds(4, 2, 10_000, 10_000);
        CHECKS.same("the greatest bounds", x.result(0, 2, 10_000), 0);
        CHECKS.same("below the greatest bounds", x.result(0, 2, 9_999), 2);
    }
}
