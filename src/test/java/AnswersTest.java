/** Promises 14 to 18: barred, ends, soon, thingAt, life. */
public final class AnswersTest {
    private static final Checks CHECKS = new Checks("AnswersTest");

    private AnswersTest() {
    }

    public static void main(String[] args) {
        promise14Barred();
        promise15Ends();
        promise15EndsOfUses();
        promise16Soon();
        promise17ThingAt();
        promise18Life();
        allRoomTaken();
        CHECKS.end();
    }

    /** One thing that is barred for all six at once, which fall away one by one. */
    private static void promise14Barred() {
        HoseTests x = new HoseTests();
        x.bounds(0, 0, 40, 70);
        Stock.addPlain(x, 0, 1, 0);
        CHECKS.same("barred for nothing", x.barred(0), 0);
        x.wash(0, false);
        CHECKS.same("wet", x.barred(0), 6);
        x.result(0, 0, 50);
        CHECKS.same("to be mended", x.barred(0), 5);
        x.day(10);
        x.test(0, 1, 10, 0);
        CHECKS.same("due", x.barred(0), 4);
        x.age(0, 10);
        CHECKS.same("old", x.barred(0), 3);
        x.recall(0, true);
        CHECKS.same("recalled", x.barred(0), 2);
        x.recall(0, false);
        CHECKS.same("not recalled", x.barred(0), 3);
        x.age(0, 11);
        CHECKS.same("not old", x.barred(0), 4);
        x.result(0, 1, 0);
        CHECKS.same("not due", x.barred(0), 5);
        x.result(0, 0, 70);
        CHECKS.same("mended", x.barred(0), 6);
        x.wash(0, true);
        CHECKS.same("dry", x.barred(0), 0);
        x.recall(0, true);
        x.result(0, 2, 0);
        CHECKS.same("a pass", x.barred(0), 2);
        x.result(0, 0, 0);
        CHECKS.same("scrapped", x.barred(0), 1);
    }

    private static void promise15Ends() {
        HoseTests x = new HoseTests();
        x.bounds(0, 0, 1, 1);
        x.day(10);
        Stock.addPlain(x, 0, 1, 5);
        CHECKS.same("no end", x.ends(0), -1);
        x.age(0, 50);
        CHECKS.same("by its age", x.ends(0), 55);
        x.test(0, 2, 40, 0);
        CHECKS.same("by a test that is sooner", x.ends(0), 45);
        x.test(0, 0, 30, 0);
        CHECKS.same("by a test that is sooner still", x.ends(0), 35);
        x.test(0, 1, 31, 0);
        CHECKS.same("by the soonest test", x.ends(0), 35);
        x.wash(0, false);
        x.recall(0, true);
        CHECKS.same("wet and recalled", x.ends(0), 35);
        x.day(35);
        CHECKS.same("on its day", x.ends(0), 35);
        x.day(70);
        CHECKS.same("behind its day", x.ends(0), 70);
        x.day(99_999);
        for (int test = 0; test < 3; test++) {
            x.result(0, test, 5);
        }
        CHECKS.same("old", x.ends(0), 99_999);
        x.age(0, 0);
        CHECKS.same("behind the last day", x.ends(0), 100_029);
        x.result(0, 0, 0);
        CHECKS.same("scrapped", x.ends(0), -1);
        Stock.addPlain(x, 1, 2, 99_999);
        x.age(1, 20_000);
        CHECKS.same("the latest end of all", x.ends(1), 119_999);
    }

    private static void promise15EndsOfUses() {
        HoseTests x = new HoseTests();
        Stock.addPlain(x, 0, 1, 0);
        x.test(0, 1, 0, 2);
        x.day(3);
        x.use(0);
        CHECKS.same("no further uses are thought of", x.ends(0), -1);
        x.use(0);
        CHECKS.same("its uses are reached", x.ends(0), 3);
        x.day(4);
        CHECKS.same("from the present day on", x.ends(0), 4);
        x.test(0, 1, 100, 2);
        CHECKS.same("uses before days", x.ends(0), 4);
        x.result(0, 1, 0);
        CHECKS.same("days before uses", x.ends(0), 104);
    }

    private static void promise16Soon() {
        HoseTests x = new HoseTests();
        x.age(0, 30);
        x.age(1, 20_000);
        x.bounds(0, 0, 1, 1);
        x.day(20);
        int[] made = {15, 10, 20, 10, 0, 0};
        for (int i = 0; i < made.length; i++) {
            Stock.add(x, 0, i, 0, 6, made[i]);
        }
        Stock.add(x, 0, 6, 0, 7, 0);
        Stock.add(x, 2, 7, 0, 6, 0);
        Stock.add(x, 1, 8, 0, 6, 20);
        x.result(5, 0, 0);
        sameSoon("by days, then numbers", x, 6, 30_000, 4, 1, 3, 0, 2, 8, -1);
        sameSoon("within thirty days", x, 6, 30, 4, 1, 3, 0, 2, -1);
        sameSoon("within a day less", x, 6, 29, 4, 1, 3, 0, -1);
        sameSoon("within twenty days", x, 6, 20, 4, 1, 3, -1);
        sameSoon("at another place", x, 7, 30_000, 6, -1);
        sameSoon("where nothing stands", x, 19, 30_000, -1);
        CHECKS.same("far more", x.soon(6, 30_000, Integer.MAX_VALUE), -1);
        x.day(30);
        sameSoon("within no day", x, 6, 0, 4, -1);
        x.day(45);
        sameSoon("those that ended count as of today, by numbers", x, 6, 0, 0, 1, 3, 4, -1);
        x.day(99_999);
        sameSoon("on the last day", x, 6, 30_000, 0, 1, 2, 3, 4, 8, -1);
    }

    private static void sameSoon(String what, HoseTests x, int place, int days, int... due) {
        for (int i = 0; i < due.length; i++) {
            CHECKS.same(what + ": soon " + i, x.soon(place, days, i), due[i]);
        }
    }

    private static void promise17ThingAt() {
        HoseTests x = Stock.make();
        sameAll("the fit one", x, Stock.FIT, 0, 3, 0, 0, 2, 2, 2, 30, 30, 30, -1);
        sameAll("the wet one", x, Stock.WET, 0, 3, 1, 1, 0, 0, 0, 31, 31, 31, -1);
        sameAll("the one to be mended", x, Stock.MENDED, 1, 3, 0, 0, 0, 0, 0, 50, 32, 32, -1);
        sameAll("the scrapped one", x, Stock.SCRAPPED, 2, 3, 0, 0, 0, 0, 0, 33, 50, 33, 50);
    }

    private static void sameAll(String what, HoseTests x, int thing, int... due) {
        for (int i = 0; i < due.length; i++) {
            CHECKS.same(what + ": thingAt " + i, x.thingAt(thing, i), due[i]);
        }
    }

    private static void promise18Life() {
        HoseTests x = new HoseTests();
        x.bounds(0, 0, 1, 1);
        x.bounds(4, 0, 1, 1);
        x.day(10);
        Stock.addPlain(x, 0, 0, 10);
        Stock.addPlain(x, 0, 1, 6);
        Stock.addPlain(x, 0, 2, 9);
        Stock.addPlain(x, 0, 3, 1);
        Stock.addPlain(x, 4, 4, 0);
        x.result(0, 0, 0);
        sameLife("one on the day of its making", x, 0, 0, 1);
        x.result(1, 0, 0);
        sameLife("0 and 4", x, 0, 2, 1);
        x.result(2, 0, 0);
        sameLife("0, 4 and 1", x, 0, 5, 3);
        x.day(14);
        x.result(3, 0, 0);
        sameLife("0, 4, 1 and 13", x, 0, 9, 2);
        CHECKS.same("a kind with none scrapped", Checks.thrownBy(() -> x.life(4, 0)), "ArithmeticException");
        x.result(4, 0, 0);
        sameLife("the other kind", x, 4, 14, 1);
        x.day(99_999);
        sameLife("later", x, 0, 9, 2);
    }

    private static void sameLife(String what, HoseTests x, int kind, int upper, int lower) {
        CHECKS.same(what + ": upper", x.life(kind, 0), upper);
        CHECKS.same(what + ": lower", x.life(kind, 1), lower);
    }

    /** The greatest number of things, each in every row that is asked for. */
    private static void allRoomTaken() {
        HoseTests x = new HoseTests();
        x.age(4, 100);
        x.bounds(4, 2, 1, 1);
        x.day(40);
        for (int thing = 0; thing < 40; thing++) {
            Stock.add(x, 4, 500 + thing, 9, 19, 40 - thing);
        }
        CHECKS.same("a batch of all", x.recall(9, true), 40);
        CHECKS.same("its last", x.recalled(9, 39), 3_919);
        CHECKS.same("no more", x.recalled(9, 40), -1);
        sameSoon("the last one made first", x, 19, 99, 39, 38, 37);
        CHECKS.same("the first one last", x.soon(19, 100, 39), 0);
        CHECKS.same("none behind it", x.soon(19, 30_000, 40), -1);
        CHECKS.same("the last one's end", x.ends(39), 101);
        x.day(41);
        for (int thing = 0; thing < 40; thing++) {
            CHECKS.same("the scrap of " + thing, x.result(thing, 2, 0), 2);
        }
        sameLife("1 to 40", x, 4, 41, 2);
        CHECKS.same("none left", x.recall(9, false), 0);
        CHECKS.same("none left at the place", x.soon(19, 30_000, 0), -1);
        CHECKS.same("the serial of a last one", Checks.thrownBy(() -> Stock.addPlain(x, 0, 539, 0)),
            "IllegalStateException");
    }
}
