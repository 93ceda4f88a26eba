/** The edges of promises 14 to 18: barred, ends, soon, thingAt, life. */
public final class AnswersEdgesTest {
    private static final Checks CHECKS = new Checks("AnswersEdgesTest");
    private static final int MIN = Integer.MIN_VALUE;
    private static final int MAX = Integer.MAX_VALUE;

    private AnswersEdgesTest() {
    }

    public static void main(String[] args) {
        promise14Barred();
        promise15None();
        promise15FirstDay();
        promise15BehindTheLastDay();
        promise16Refusals();
        promise16Within();
        promise16Order();
        promise16NotSoMany();
        promise17ThingAt();
        promise18None();
        promise18LowestTerms();
        CHECKS.end();
    }

    private static void promise14Barred() {
        CHECKS.sentence("14: Unknown: no such thing.");
        CHECKS.refusedEach("thing", Checks.UNKNOWN, thing -> s -> s.barred(thing),
            -1, Stock.COUNT, 39, 40, MIN, MAX);
        CHECKS.refused("the one behind all 40", Checks.UNKNOWN, Stock::makeFull, s -> s.barred(40));

        CHECKS.sentence("14: Why a thing is barred; 0 not.");
        CHECKS.same("the last one of 40", Stock.makeFull().barred(39), 0);
        HoseTests x = Stock.make();
        int[] due = {0, 6, 5, 1, 2};
        for (int thing = 0; thing < Stock.COUNT; thing++) {
            CHECKS.same("thing " + thing, x.barred(thing), due[thing]);
        }
        CHECKS.same("the day before a test is due", Stock.makeOnDay(119).barred(Stock.FIT), 0);
        CHECKS.same("the day of it", Stock.makeOnDay(120).barred(Stock.FIT), 4);
        CHECKS.same("the day before it is old", Stock.makeOnDay(429).barred(Stock.FIT), 4);
        CHECKS.same("the day of it", Stock.makeOnDay(430).barred(Stock.FIT), 3);
        CHECKS.same("the last day", Stock.makeOnDay(99_999).barred(Stock.FIT), 3);
    }

    private static void promise15None() {
        CHECKS.sentence("15: Unknown: no such thing.");
        CHECKS.refusedEach("thing", Checks.UNKNOWN, thing -> s -> s.ends(thing), -1, Stock.COUNT, 39, 40, MIN, MAX);
        CHECKS.refused("the one behind all 40", Checks.UNKNOWN, Stock::makeFull, s -> s.ends(40));
        CHECKS.same("the last one of 40", Stock.makeFull().ends(39), 90);

        CHECKS.sentence("15: -1 when there is none such");
        HoseTests x = new HoseTests();
        Stock.addPlain(x, 0, 1, 0);
        CHECKS.same("with nothing set", x.ends(0), -1);
        x.age(1, 1);
        x.test(1, 0, 1, 1);
        CHECKS.same("with another kind's settings", x.ends(0), -1);
        x.wash(0, false);
        x.recall(0, true);
        CHECKS.same("barred, but without an end", x.ends(0), -1);

        CHECKS.sentence("15: (without further uses)");
        HoseTests y = new HoseTests();
        y.test(0, 1, 0, 2);
        Stock.addPlain(y, 0, 1, 0);
        y.day(5);
        y.use(0);
        CHECKS.same("one use before", y.ends(0), -1);
        y.use(0);
        CHECKS.same("its uses are reached", y.ends(0), 5);
        y.day(6);
        CHECKS.same("and were the day before", y.ends(0), 6);

        CHECKS.sentence("15: -1 .. or it is scrapped");
        CHECKS.same("with an end before", Stock.make().ends(Stock.SCRAPPED), -1);
        CHECKS.same("on the day of it", Stock.makeOnDay(123).ends(Stock.SCRAPPED), -1);
        CHECKS.same("when it were old", Stock.makeOnDay(433).ends(Stock.SCRAPPED), -1);
    }

    private static void promise15FirstDay() {
        CHECKS.sentence("15: The first day .. on which some test of a thing is due or it is old");
        int[] latest = {10, 20, 30};
        for (int soonest = 0; soonest < 4; soonest++) {
            HoseTests x = new HoseTests();
            x.age(0, soonest == 3 ? 100 : 101);
            for (int test = 0; test < 3; test++) {
                x.test(0, test, 100 - latest[test] + (soonest == test ? 0 : 1), 0);
            }
            Stock.addPlain(x, 0, 1, 0);
            for (int test = 0; test < 3; test++) {
                x.day(latest[test]);
                x.result(0, test, 0);
            }
            CHECKS.same("the soonest of four, " + soonest, x.ends(0), 100);
        }

        CHECKS.sentence("15: from the present one on");
        CHECKS.same("the day before it", Stock.makeOnDay(119).ends(Stock.FIT), 120);
        CHECKS.same("on it", Stock.makeOnDay(120).ends(Stock.FIT), 120);
        CHECKS.same("behind it", Stock.makeOnDay(121).ends(Stock.FIT), 121);
        CHECKS.same("on the last day", Stock.makeOnDay(99_999).ends(Stock.FIT), 99_999);
    }

    private static void promise15BehindTheLastDay() {
        CHECKS.sentence("15: it may lie behind 99,999");
        HoseTests x = new HoseTests();
        x.day(99_999);
        Stock.addPlain(x, 0, 1, 99_999);
        x.age(0, 20_000);
        CHECKS.same("by the greatest age", x.ends(0), 119_999);
        x.test(0, 0, 5_000, 0);
        CHECKS.same("by the most days", x.ends(0), 104_999);
        x.test(0, 2, 1, 0);
        CHECKS.same("the day behind the last one", x.ends(0), 100_000);
        Stock.addPlain(x, 0, 2, 99_998);
        CHECKS.same("the last one", x.ends(1), 99_999);
    }

    private static void promise16Refusals() {
        CHECKS.sentence("16: Unknown: no such place");
        CHECKS.ends("place", 0, 19, Checks.UNKNOWN, place -> s -> s.soon(place, 0, 0));

        CHECKS.sentence("16: range: days (0 .. 30,000)");
        CHECKS.ends("days", 0, 30_000, Checks.RANGE, days -> s -> s.soon(Stock.PLACE, days, 0));
        CHECKS.ends("days at a place without things", 0, 30_000, Checks.RANGE, days -> s -> s.soon(0, days, 0));

        CHECKS.sentence("16: range: .. i");
        CHECKS.ends("i", 0, MAX, Checks.RANGE, i -> s -> s.soon(Stock.PLACE, 0, i));
        CHECKS.ends("i at a place without things", 0, MAX, Checks.RANGE, i -> s -> s.soon(0, 30_000, i));
    }

    private static void promise16Within() {
        CHECKS.sentence("16: ends .. within so many days (0 .. 30,000) behind the present one");
        CHECKS.same("the day before, within none", Stock.makeOnDay(119).soon(Stock.PLACE, 0, 0), -1);
        CHECKS.same("the day before, within one", Stock.makeOnDay(119).soon(Stock.PLACE, 1, 0), Stock.FIT);
        CHECKS.same("the day itself, within none", Stock.makeOnDay(120).soon(Stock.PLACE, 0, 0), Stock.FIT);
        CHECKS.same("behind it, within none", Stock.makeOnDay(200).soon(Stock.PLACE, 0, 0), Stock.FIT);
        HoseTests x = new HoseTests();
        x.age(0, 20_000);
        x.day(99_999);
        Stock.addPlain(x, 0, 1, 99_999);
        CHECKS.same("behind the last day, a day too far", x.soon(0, 19_999, 0), -1);
        CHECKS.same("behind the last day, on its day", x.soon(0, 20_000, 0), 0);
        CHECKS.same("behind the last day, most days", x.soon(0, 30_000, 0), 0);

        CHECKS.sentence("16: (as of ends()): none such, or scrapped");
        HoseTests y = Stock.make();
        Stock.add(y, 2, 1, 0, 5, 0);
        CHECKS.same("one without an end", y.soon(5, 30_000, 0), -1);
        int[] due = {Stock.FIT, Stock.WET, Stock.MENDED, Stock.IN_RECALLED_BATCH, -1};
        sameSoon("barred ones too, but not a scrapped one", y, Stock.PLACE, 30_000, due);

        CHECKS.sentence("16: at a place");
        for (int place = 0; place < 20; place++) {
            HoseTests z = Stock.make();
            z.load(Stock.FIT, place);
            CHECKS.same("come to " + place, z.soon(place, 30_000, 0), Stock.FIT);
            CHECKS.same("first at the old one", z.soon(Stock.PLACE, 30_000, 0),
                place == Stock.PLACE ? Stock.FIT : Stock.WET);
        }
    }

    private static void sameSoon(String what, HoseTests x, int place, int days, int... due) {
        for (int i = 0; i < due.length; i++) {
            CHECKS.same(what + ", " + i, x.soon(place, days, i), due[i]);
        }
    }

    private static void promise16Order() {
        CHECKS.sentence("16: by that day, then numbers");
        HoseTests x = fullPlace();
        for (int i = 0; i < 40; i++) {
            CHECKS.same("the i-th of 40, pairs from the last one on, " + i, x.soon(19, 30_000, i), 38 - i + i % 2 * 2);
        }
        CHECKS.same("behind the 40", x.soon(19, 30_000, 40), -1);
        x.day(200);
        for (int i = 0; i < 40; i++) {
            CHECKS.same("all end on the present day, by numbers, " + i, x.soon(19, 0, i), i);
        }
        CHECKS.same("behind them", x.soon(19, 0, 40), -1);
    }

    /** Forty things at one place; each two of them (0 and 1, ..) were made on one day, the later ones earlier. */
    private static HoseTests fullPlace() {
        HoseTests x = new HoseTests();
        x.age(4, 100);
        x.bounds(4, 2, 1, 1);
        x.day(40);
        for (int thing = 0; thing < 40; thing++) {
            Stock.add(x, 4, 500 + thing, 9, 19, 40 - thing / 2);
        }
        return x;
    }

    private static void promise16NotSoMany() {
        CHECKS.sentence("16: -1 when there are not so many");
        for (int place = 0; place < 20; place++) {
            CHECKS.same("no things at all", new HoseTests().soon(place, 30_000, 0), -1);
        }
        HoseTests x = Stock.make();
        CHECKS.same("a place without things", x.soon(0, 30_000, 0), -1);
        CHECKS.same("the last one", x.soon(Stock.PLACE, 30_000, 3), Stock.IN_RECALLED_BATCH);
        CHECKS.same("one behind it", x.soon(Stock.PLACE, 30_000, 4), -1);
        CHECKS.same("far behind it", x.soon(Stock.PLACE, 30_000, MAX), -1);
        HoseTests y = fullPlace();
        CHECKS.same("within days that two of 40 end", y.soon(19, 81, 1), 39);
        CHECKS.same("the third within them", y.soon(19, 81, 2), -1);
        CHECKS.same("within a day less", y.soon(19, 80, 0), -1);
        y.result(39, 2, 0);
        CHECKS.same("when one of the two is scrapped", y.soon(19, 81, 0), 38);
        CHECKS.same("one behind it", y.soon(19, 81, 1), -1);
    }

    private static void promise17ThingAt() {
        CHECKS.sentence("17: Unknown: no such thing or what.");
        CHECKS.refusedEach("thing", Checks.UNKNOWN, thing -> s -> s.thingAt(thing, 0),
            -1, Stock.COUNT, 39, 40, MIN, MAX);
        CHECKS.refused("the one behind all 40", Checks.UNKNOWN, Stock::makeFull, s -> s.thingAt(40, 0));
        CHECKS.ends("what", 0, 10, Checks.UNKNOWN, what -> s -> s.thingAt(Stock.FIT, what));
        CHECKS.ends("what of the last thing", 0, 10, Checks.UNKNOWN, what -> s -> s.thingAt(Stock.COUNT - 1, what));

        CHECKS.sentence("17: 0 what it is .. 10 the day on which it was scrapped (-1)");
        HoseTests x = Stock.make();
        sameThing(x, Stock.FIT, 0, 3, 0, 0, 2, 2, 2, 30, 30, 30, -1);
        sameThing(x, Stock.WET, 0, 3, 1, 1, 0, 0, 0, 31, 31, 31, -1);
        sameThing(x, Stock.MENDED, 1, 3, 0, 0, 0, 0, 0, 50, 32, 32, -1);
        sameThing(x, Stock.SCRAPPED, 2, 3, 0, 0, 0, 0, 0, 33, 50, 33, 50);
        sameThing(x, Stock.IN_RECALLED_BATCH, 0, 3, 0, 0, 0, 0, 0, 34, 34, 34, -1);

        CHECKS.sentence("17: each of the last thing of 40 its own");
        HoseTests y = fullPlace();
        y.use(39);
        y.result(39, 0, 0);
        y.day(41);
        y.use(39);
        y.result(39, 1, 0);
        y.use(39);
        y.load(39, 7);
        y.wash(39, false);
        sameThing(y, 39, 0, 7, 1, 1, 2, 0, 3, 40, 41, 21, -1);
        sameThing(y, 38, 0, 19, 0, 0, 0, 0, 0, 21, 21, 21, -1);
        y.day(99_999);
        y.result(39, 2, 0);
        sameThing(y, 39, 2, 7, 1, 1, 2, 0, 0, 40, 41, 99_999, 99_999);
        HoseTests z = new HoseTests();
        z.bounds(0, 0, 1, 1);
        Stock.addPlain(z, 0, 1, 0);
        z.result(0, 0, 0);
        CHECKS.same("scrapped on day 0", z.thingAt(0, 10), 0);
        CHECKS.same("what it is then", z.thingAt(0, 0), 2);
    }

    private static void sameThing(HoseTests x, int thing, int... due) {
        for (int what = 0; what < due.length; what++) {
            CHECKS.same("thing " + thing + ", what " + what, x.thingAt(thing, what), due[what]);
        }
    }

    private static void promise18None() {
        CHECKS.sentence("18: Unknown: no such kind or what");
        CHECKS.refusedEach("kind", Checks.UNKNOWN, kind -> s -> s.life(kind, 0), -1, 5, MIN, MAX);
        CHECKS.ends("what", 0, 1, Checks.UNKNOWN, what -> s -> s.life(0, what));

        CHECKS.sentence("18: ArithmeticException: none was.");
        for (int kind = 0; kind < 5; kind++) {
            int of = kind;
            HoseTests x = new HoseTests();
            x.bounds(kind, 0, 1, 1);
            x.bounds((kind + 1) % 5, 0, 1, 1);
            CHECKS.throwing("no things", Checks.ARITHMETIC, () -> x.life(of, 0));
            CHECKS.throwing("no things, the lower number", Checks.ARITHMETIC, () -> x.life(of, 1));
            Stock.addPlain(x, kind, 1, 0);
            Stock.addPlain(x, (kind + 1) % 5, 2, 0);
            x.day(3);
            CHECKS.throwing("none scrapped", Checks.ARITHMETIC, () -> x.life(of, 0));
            x.result(1, 0, 0);
            CHECKS.throwing("one of another kind scrapped", Checks.ARITHMETIC, () -> x.life(of, 0));
            CHECKS.throwing("likewise, the lower number", Checks.ARITHMETIC, () -> x.life(of, 1));
            x.result(0, 0, 0);
            sameLife("one scrapped", x, kind, 3, 1);
        }
        CHECKS.refusedEach("none of a kind", Checks.ARITHMETIC, kind -> s -> s.life(kind, 0), 1, 2, 3, 4);
    }

    private static void sameLife(String what, HoseTests x, int kind, int upper, int lower) {
        CHECKS.same(what + ": upper", x.life(kind, 0), upper);
        CHECKS.same(what + ": lower", x.life(kind, 1), lower);
    }

    private static void promise18LowestTerms() {
        CHECKS.sentence("18: (the day of it less the one on which they were made), in lowest terms");
        sameLifeOf("the least life", 0, 1, 0);
        sameLifeOf("the least lives", 0, 1, 0, 0, 0);
        sameLifeOf("the greatest life", 99_999, 1, 99_999);
        sameLifeOf("a whole mean", 5, 1, 4, 6);
        sameLifeOf("a half", 1, 2, 0, 1);
        sameLifeOf("a half of four", 1, 2, 0, 1, 0, 1);
        sameLifeOf("no common divisor", 7, 3, 0, 3, 4);
        sameLifeOf("a divisor that is not the number of things", 3, 2, 1, 2, 1, 2, 1, 2);
        sameLifeOf("a third of six", 4, 3, 1, 1, 1, 1, 1, 3);
        int[] great = new int[40];
        java.util.Arrays.fill(great, 99_999);
        sameLifeOf("forty greatest lives", 99_999, 1, great);
        great[7] = 99_998;
        sameLifeOf("forty with one a day shorter", 40 * 99_999 - 1, 40, great);
        great[39] = 99_998;
        sameLifeOf("forty with two a day shorter", 20 * 99_999 - 1, 20, great);
    }

    private static void sameLifeOf(String what, int upper, int lower, int... lives) {
        HoseTests x = new HoseTests();
        x.bounds(3, 1, 1, 1);
        x.day(99_999);
        for (int i = 0; i < lives.length; i++) {
            x.result(Stock.addPlain(x, 3, i, 99_999 - lives[i]), 1, 0);
        }
        sameLife(what, x, 3, upper, lower);
    }
}
