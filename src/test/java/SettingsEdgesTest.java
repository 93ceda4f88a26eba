/** The edges of promises 1 to 5: a new object, day, age, test, bounds. */
public final class SettingsEdgesTest {
    private static final Checks CHECKS = new Checks("SettingsEdgesTest");

    private SettingsEdgesTest() {
    }

    public static void main(String[] args) {
        promise1NewObject();
        promise2Day();
        promise3Age();
        promise4Test();
        promise5Bounds();
        CHECKS.end();
    }

    private static void promise1NewObject() {
        CHECKS.sentence("1: No things.");
        for (int thing : new int[] {0, 39, -1}) {
            CHECKS.refused("use", Checks.UNKNOWN, HoseTests::new, s -> s.use(thing));
            CHECKS.refused("wash", Checks.UNKNOWN, HoseTests::new, s -> s.wash(thing, false));
            CHECKS.refused("drying", Checks.UNKNOWN, HoseTests::new, s -> s.wash(thing, true));
            CHECKS.refused("result", Checks.UNKNOWN, HoseTests::new, s -> s.result(thing, 0, 0));
            CHECKS.refused("load", Checks.UNKNOWN, HoseTests::new, s -> s.load(thing, 0));
            CHECKS.refused("barred", Checks.UNKNOWN, HoseTests::new, s -> s.barred(thing));
            CHECKS.refused("ends", Checks.UNKNOWN, HoseTests::new, s -> s.ends(thing));
            CHECKS.refused("thingAt", Checks.UNKNOWN, HoseTests::new, s -> s.thingAt(thing, 0));
        }
        HoseTests x = new HoseTests();
        for (int batch = 0; batch < 10; batch++) {
            int of = batch;
            CHECKS.same("a batch's things", x.recalled(batch, 0), -1);
            CHECKS.throwing("no batch is recalled", Checks.STATE, () -> x.recall(of, false));
            CHECKS.same("a batch's number of things", x.recall(batch, true), 0);
            CHECKS.same("a recalled batch's things", x.recalled(batch, 0), -1);
        }
        for (int place = 0; place < 20; place++) {
            CHECKS.same("a place's things", x.soon(place, 30_000, 0), -1);
        }
        for (int kind = 0; kind < 5; kind++) {
            int of = kind;
            CHECKS.throwing("a kind's lives, upper", Checks.ARITHMETIC, () -> x.life(of, 0));
            CHECKS.throwing("a kind's lives, lower", Checks.ARITHMETIC, () -> x.life(of, 1));
        }
        CHECKS.throwing("no plan", Checks.UNKNOWN, () -> x.week(0));
        CHECKS.same("the first thing's number", x.thing(0, 0, 'A', 1, 0, 0), 0);
        CHECKS.throwing("another object has none yet", Checks.UNKNOWN, () -> new HoseTests().barred(0));
        CHECKS.taken("another object takes its serial", () -> new HoseTests().thing(0, 0, 'A', 1, 0, 0));
    }

    private static void promise2Day() {
        CHECKS.sentence("2: Range: below the present one, or above 99,999.");
        CHECKS.ends("day", Stock.TODAY, 99_999, Checks.RANGE, d -> s -> s.day(d));
        CHECKS.refusedEach("a day that has gone by", Checks.RANGE, d -> s -> s.day(d), 0, -1);

        CHECKS.sentence("2: The day is this one.");
        for (int d : new int[] {0, 1, 99_999}) {
            HoseTests x = new HoseTests();
            x.day(d);
            CHECKS.throwing("made on the day behind", Checks.RANGE, () -> Stock.addPlain(x, 0, 1, d + 1));
            CHECKS.same("made on this day", Stock.addPlain(x, 0, 1, d), 0);
            CHECKS.taken("this day again", () -> x.day(d));
            CHECKS.throwing("the day before", Checks.RANGE, () -> x.day(d - 1));
        }
    }

    private static void promise3Age() {
        CHECKS.sentence("3: Unknown: no such kind");
        CHECKS.ends("kind", 0, 4, Checks.UNKNOWN, kind -> s -> s.age(kind, 1));

        CHECKS.sentence("3: range: it (0 .. 20,000)");
        CHECKS.ends("age", 0, 20_000, Checks.RANGE, days -> s -> s.age(0, days));
        CHECKS.ends("age of the last kind", 0, 20_000, Checks.RANGE, days -> s -> s.age(4, days));
        CHECKS.ends("age of a kind with an age alone", 0, 20_000, Checks.RANGE, days -> s -> s.age(1, days));

        CHECKS.sentence("3: A kind's age.");
        HoseTests x = new HoseTests();
        for (int kind = 0; kind < 5; kind++) {
            Stock.addPlain(x, kind, kind, 0);
            x.age(kind, 20_000 - kind);
        }
        for (int kind = 0; kind < 5; kind++) {
            CHECKS.same("of its own kind, " + kind, x.ends(kind), 20_000 - kind);
        }
    }

    private static void promise4Test() {
        CHECKS.sentence("4: Unknown: no such kind or test");
        CHECKS.ends("kind", 0, 4, Checks.UNKNOWN, kind -> s -> s.test(kind, 0, 1, 1));
        CHECKS.ends("kind with its last test", 0, 4, Checks.UNKNOWN, kind -> s -> s.test(kind, 2, 1, 1));
        CHECKS.ends("test", 0, 2, Checks.UNKNOWN, test -> s -> s.test(0, test, 1, 1));
        CHECKS.ends("test of the last kind", 0, 2, Checks.UNKNOWN, test -> s -> s.test(4, test, 1, 1));

        CHECKS.sentence("4: range: days (0 .. 5,000)");
        CHECKS.ends("days", 0, 5_000, Checks.RANGE, days -> s -> s.test(0, 0, days, 1));
        CHECKS.ends("days without uses", 0, 5_000, Checks.RANGE, days -> s -> s.test(4, 2, days, 0));

        CHECKS.sentence("4: range: uses (0 .. 1,000)");
        CHECKS.ends("uses", 0, 1_000, Checks.RANGE, uses -> s -> s.test(0, 0, 1, uses));
        CHECKS.ends("uses without days", 0, 1_000, Checks.RANGE, uses -> s -> s.test(4, 2, 0, uses));

        CHECKS.sentence("4: A test of a kind.");
        HoseTests x = new HoseTests();
        for (int kind = 0; kind < 5; kind++) {
            for (int test = 0; test < 3; test++) {
                x.test(kind, test, 5_000 - 10 * kind - test, 0);
            }
            Stock.addPlain(x, kind, kind, 0);
        }
        for (int kind = 0; kind < 5; kind++) {
            for (int test = 2; test >= 0; test--) {
                CHECKS.same("of its own kind and test, " + kind + ", " + test, x.ends(kind), 5_000 - 10 * kind - test);
                x.test(kind, test, 0, 0);
            }
        }
    }

    private static void promise5Bounds() {
        CHECKS.sentence("5: Unknown: likewise");
        CHECKS.ends("kind", 0, 4, Checks.UNKNOWN, kind -> s -> s.bounds(kind, 0, 1, 1));
        CHECKS.ends("kind with its last test", 0, 4, Checks.UNKNOWN, kind -> s -> s.bounds(kind, 2, 1, 1));
        CHECKS.ends("test", 0, 2, Checks.UNKNOWN, test -> s -> s.bounds(0, test, 1, 1));
        CHECKS.ends("test of the last kind", 0, 2, Checks.UNKNOWN, test -> s -> s.bounds(4, test, 1, 1));

        CHECKS.sentence("5: range: they are not so (LOW <= PASS, 0 .. 10,000)");
        CHECKS.ends("low", 0, 8, Checks.RANGE, low -> s -> s.bounds(0, 0, low, 8));
        CHECKS.ends("low, with the greatest pass", 0, 10_000, Checks.RANGE, low -> s -> s.bounds(0, 0, low, 10_000));
        CHECKS.ends("low, with the least pass", 0, 0, Checks.RANGE, low -> s -> s.bounds(0, 0, low, 0));
        CHECKS.ends("pass", 5, 10_000, Checks.RANGE, pass -> s -> s.bounds(0, 0, 5, pass));
        CHECKS.ends("pass, with the least low", 0, 10_000, Checks.RANGE, pass -> s -> s.bounds(4, 2, 0, pass));
        CHECKS.ends("pass, with the greatest low", 10_000, 10_000, Checks.RANGE,
            pass -> s -> s.bounds(0, 0, 10_000, pass));
        CHECKS.refusedEach("both", Checks.RANGE, both -> s -> s.bounds(0, 0, both, both),
            -1, 10_001, Integer.MIN_VALUE, Integer.MAX_VALUE);
        CHECKS.refused("both below, low the lesser", Checks.RANGE, s -> s.bounds(0, 0, -2, -1));
        CHECKS.refused("both above, low the lesser", Checks.RANGE, s -> s.bounds(0, 0, 10_001, 10_002));

        CHECKS.sentence("5: Its bounds.");
        for (int own = 0; own < 15; own++) {
            HoseTests x = new HoseTests();
            x.bounds(own / 3, own % 3, 1, 2);
            for (int kind = 0; kind < 5; kind++) {
                Stock.addPlain(x, kind, kind, 0);
                for (int test = 0; test < 3; test++) {
                    CHECKS.same("of its own kind and test", x.result(kind, test, 1), kind * 3 + test == own ? 1 : 0);
                }
            }
        }
    }
}
