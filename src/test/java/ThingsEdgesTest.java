/** The edges of promises 6 to 13: thing, letter, use, wash, result, load, recall, recalled. */
public final class ThingsEdgesTest {
    private static final Checks CHECKS = new Checks("ThingsEdgesTest");
    private static final int MIN = Integer.MIN_VALUE;
    private static final int MAX = Integer.MAX_VALUE;

    private ThingsEdgesTest() {
    }

    public static void main(String[] args) {
        promise6Numbers();
        promise6State();
        promise6Room();
        promise7Letter();
        promise8Use();
        promise9Wash();
        promise10Result();
        promise11Load();
        promise12Recall();
        promise13Recalled();
        CHECKS.end();
    }

    private static void promise6Numbers() {
        CHECKS.sentence("6: Unknown: no such kind, batch or place");
        CHECKS.ends("kind", 0, 4, Checks.UNKNOWN, kind -> s -> s.thing(kind, 0, 'A', 0, 0, 0));
        CHECKS.ends("batch", 0, 9, Checks.UNKNOWN, batch -> s -> s.thing(0, 0, 'A', batch, 0, 0));
        CHECKS.ends("place", 0, 19, Checks.UNKNOWN, place -> s -> s.thing(0, 0, 'A', 0, place, 0));

        CHECKS.sentence("6: range: serial (0 .. 999,999)");
        CHECKS.ends("serial", 0, 999_999, Checks.RANGE,
            serial -> s -> s.thing(0, serial, serial == 999_999 ? 'O' : 'A', 0, 0, 0));

        CHECKS.sentence("6: range: made");
        CHECKS.ends("made", 0, Stock.TODAY, Checks.RANGE, made -> s -> s.thing(0, 0, 'A', 0, 0, made));
        CHECKS.refused("made on day 1 of an object on day 0", Checks.RANGE, HoseTests::new,
            s -> s.thing(0, 0, 'A', 0, 0, 1));
        CHECKS.refused("made behind the last day", Checks.RANGE, () -> Stock.makeOnDay(99_999),
            s -> s.thing(0, 0, 'A', 0, 0, 100_000));
    }

    private static void promise6State() {
        CHECKS.sentence("6: state: the letter is not that");
        CHECKS.refusedEach("letter of serial 0", Checks.STATE, letter -> s -> s.thing(0, 0, letter, 0, 0, 0),
            'A' - 1, 'B', 'W', 'X', 'a', 0, -1, 'A' + 23, 'A' + 256, 'A' - 256, MIN, MAX);
        for (int letter = 0; letter < 256; letter++) {
            int with = letter;
            if (letter == 'T') {
                CHECKS.taken("its letter", () -> Stock.make().thing(0, 123_456, with, 0, 0, 0));
            } else {
                CHECKS.throwing("letter " + letter, Checks.STATE,
                    () -> Stock.make().thing(0, 123_456, with, 0, 0, 0));
            }
        }

        CHECKS.sentence("6: state: .. or the serial is told");
        for (int thing = 0; thing < Stock.COUNT; thing++) {
            int serial = Stock.SERIAL + thing;
            CHECKS.refused("the serial of thing " + thing, Checks.STATE, s -> Stock.add(s, 4, serial, 5, 6, 7));
        }
        CHECKS.taken("one below them", () -> Stock.addPlain(Stock.make(), 0, Stock.SERIAL - 1, 0));
        CHECKS.taken("one above them", () -> Stock.addPlain(Stock.make(), 0, Stock.SERIAL + Stock.COUNT, 0));
        CHECKS.taken("0, which no thing has yet", () -> Stock.addPlain(Stock.make(), 0, 0, 0));

        CHECKS.sentence("6: a refused thing's serial is not told");
        HoseTests x = Stock.make();
        CHECKS.throwing("a wrong letter", Checks.STATE, () -> x.thing(0, 7, 'A', 0, 0, 0));
        CHECKS.throwing("a wrong day", Checks.RANGE, () -> x.thing(0, 7, 'H', 0, 0, Stock.TODAY + 1));
        CHECKS.throwing("a wrong kind", Checks.UNKNOWN, () -> x.thing(5, 7, 'H', 0, 0, 0));
        CHECKS.same("the same serial then", x.thing(0, 7, 'H', 0, 0, 0), Stock.COUNT);
    }

    private static void promise6Room() {
        CHECKS.sentence("6: One more thing .. its number");
        HoseTests x = new HoseTests();
        for (int thing = 0; thing < 40; thing++) {
            CHECKS.same("thing " + thing, Stock.add(x, thing % 5, thing, thing % 10, thing % 20, 0), thing);
        }
        for (int thing = 0; thing < 40; thing++) {
            CHECKS.same("its batch", x.recalled(thing % 10, thing / 10), 100 * thing + thing % 20);
        }

        CHECKS.sentence("6: no room: there are 40");
        CHECKS.refused("one more", Checks.NO_ROOM, Stock::makeFull, s -> Stock.addPlain(s, 0, 0, 0));
        CHECKS.refused("one more of another kind", Checks.NO_ROOM, Stock::makeFull, s -> Stock.addPlain(s, 4, 0, 50));
        CHECKS.refused("a told serial where no room is", Checks.STATE, Stock::makeFull,
            s -> Stock.addPlain(s, 0, 239, 0));
        HoseTests y = new HoseTests();
        for (int thing = 0; thing < 39; thing++) {
            Stock.addPlain(y, 0, thing, 0);
        }
        CHECKS.throwing("a refused one takes no room", Checks.STATE, () -> Stock.addPlain(y, 0, 0, 0));
        CHECKS.same("the 40th has room", Stock.addPlain(y, 0, 39, 0), 39);
        CHECKS.throwing("the 41st has none", Checks.NO_ROOM, () -> Stock.addPlain(y, 0, 40, 0));
        CHECKS.throwing("nor the same once more", Checks.NO_ROOM, () -> Stock.addPlain(y, 0, 40, 0));
    }

    private static void promise7Letter() {
        CHECKS.sentence("7: Range: it is not so (0 .. 999,999).");
        CHECKS.ends("serial", 0, 999_999, Checks.RANGE, serial -> s -> s.letter(serial));
        CHECKS.refused("of a new object", Checks.RANGE, HoseTests::new, s -> s.letter(-1));

        CHECKS.sentence("7: A serial's letter.");
        HoseTests x = new HoseTests();
        CHECKS.same("the least serial", x.letter(0), 65);
        CHECKS.same("the greatest serial, a sum of 198", x.letter(999_999), 65 + 14);
        CHECKS.same("a sum of 22, the last letter", x.letter(301), 65 + 22);
        CHECKS.same("a sum of 23, the first letter again", x.letter(302), 65);
        CHECKS.same("a sum of 46", x.letter(604), 65);
        CHECKS.same("a sum of 45", x.letter(603), 65 + 22);
        CHECKS.same("of a told serial", Stock.make().letter(Stock.SERIAL), 65 + 7);
    }

    private static void promise8Use() {
        CHECKS.sentence("8: Unknown: no such thing");
        CHECKS.refusedEach("thing", Checks.UNKNOWN, thing -> s -> s.use(thing), -1, Stock.COUNT, 39, 40, MIN, MAX);
        CHECKS.taken("the first one", () -> Stock.make().use(0));
        CHECKS.refused("the one behind all 40", Checks.UNKNOWN, Stock::makeFull, s -> s.use(40));
        CHECKS.taken("the last one of 40", () -> Stock.makeFull().use(39));

        CHECKS.sentence("8: state: it is barred");
        CHECKS.refusedEach("barred thing", Checks.STATE, thing -> s -> s.use(thing),
            Stock.SCRAPPED, Stock.IN_RECALLED_BATCH, Stock.MENDED, Stock.WET);
        CHECKS.refused("an old one", Checks.STATE, () -> Stock.makeOnDay(430), s -> s.use(Stock.FIT));
        CHECKS.refused("a test due by days", Checks.STATE, () -> Stock.makeOnDay(120), s -> s.use(Stock.FIT));
        CHECKS.taken("the day before it is due", () -> Stock.makeOnDay(119).use(Stock.FIT));
        CHECKS.refused("a test due by uses", Checks.STATE, ThingsEdgesTest::stockWithFourUses, s -> s.use(Stock.FIT));
        HoseTests x = stockWithFourUses();
        x.result(Stock.FIT, 2, 70);
        CHECKS.taken("a use behind the test", () -> x.use(Stock.FIT));
        CHECKS.same("the other tests' uses", x.thingAt(Stock.FIT, 4), 5);
        CHECKS.same("its own, on its latest day", x.thingAt(Stock.FIT, 6), 0);
        CHECKS.same("another thing's uses", x.thingAt(Stock.WET, 4), 0);
    }

    private static HoseTests stockWithFourUses() {
        HoseTests x = Stock.make();
        x.use(Stock.FIT);
        x.use(Stock.FIT);
        return x;
    }

    private static void promise9Wash() {
        CHECKS.sentence("9: Unknown: no such thing");
        CHECKS.refusedEach("washed", Checks.UNKNOWN, thing -> s -> s.wash(thing, false),
            -1, Stock.COUNT, 39, 40, MIN, MAX);
        CHECKS.refusedEach("dried", Checks.UNKNOWN, thing -> s -> s.wash(thing, true),
            -1, Stock.COUNT, 39, 40, MIN, MAX);
        CHECKS.refused("the one behind all 40", Checks.UNKNOWN, Stock::makeFull, s -> s.wash(40, false));
        CHECKS.same("the last one of 40", Stock.makeFull().wash(39, false), 1);
        CHECKS.same("the last one known", Stock.make().wash(Stock.COUNT - 1, false), 1);

        CHECKS.sentence("9: state: it is wet (washed), or dry (dried), or scrapped");
        CHECKS.refused("a wet one washed", Checks.STATE, s -> s.wash(Stock.WET, false));
        CHECKS.refused("a dry one dried", Checks.STATE, s -> s.wash(Stock.FIT, true));
        CHECKS.refused("a dry scrapped one washed", Checks.STATE, s -> s.wash(Stock.SCRAPPED, false));
        CHECKS.refused("a dry scrapped one dried", Checks.STATE, s -> s.wash(Stock.SCRAPPED, true));
        CHECKS.refused("a wet scrapped one washed", Checks.STATE, ThingsEdgesTest::stockWithWetScrap,
            s -> s.wash(Stock.WET, false));
        CHECKS.refused("a wet scrapped one dried", Checks.STATE, ThingsEdgesTest::stockWithWetScrap,
            s -> s.wash(Stock.WET, true));
        CHECKS.same("a scrapped one stays wet", stockWithWetScrap().thingAt(Stock.WET, 3), 1);
        CHECKS.same("one to be mended is washed", Stock.make().wash(Stock.MENDED, false), 1);
        CHECKS.same("one recalled is washed", Stock.make().wash(Stock.IN_RECALLED_BATCH, false), 1);
        CHECKS.same("one with a test due is washed", Stock.makeOnDay(120).wash(Stock.FIT, false), 1);
        CHECKS.same("an old one is washed", Stock.makeOnDay(430).wash(Stock.FIT, false), 1);

        CHECKS.sentence("9: how many times it was washed");
        HoseTests x = Stock.make();
        for (int times = 1; times <= 3; times++) {
            CHECKS.same("washed", x.wash(Stock.FIT, false), times);
            CHECKS.same("wet then", x.thingAt(Stock.FIT, 3), 1);
            CHECKS.throwing("washed again", Checks.STATE, () -> x.wash(Stock.FIT, false));
            CHECKS.same("dried", x.wash(Stock.FIT, true), times);
            CHECKS.same("dry then", x.thingAt(Stock.FIT, 3), 0);
            CHECKS.throwing("dried again", Checks.STATE, () -> x.wash(Stock.FIT, true));
            CHECKS.same("how many times", x.thingAt(Stock.FIT, 2), times);
        }
        CHECKS.same("another one's times", x.wash(Stock.WET, true), 1);
    }

    private static HoseTests stockWithWetScrap() {
        HoseTests x = Stock.make();
        x.result(Stock.WET, 2, 0);
        return x;
    }

    private static void promise10Result() {
        CHECKS.sentence("10: Unknown: no such thing or test");
        CHECKS.refusedEach("thing", Checks.UNKNOWN, thing -> s -> s.result(thing, 0, 0),
            -1, Stock.COUNT, 39, 40, MIN, MAX);
        CHECKS.refused("the one behind all 40", Checks.UNKNOWN, Stock::makeFull, s -> s.result(40, 0, 0));
        CHECKS.same("the last one of 40", Stock.makeFull().result(39, 2, 69), 1);
        CHECKS.ends("test", 0, 2, Checks.UNKNOWN, test -> s -> s.result(Stock.FIT, test, 0));
        CHECKS.ends("test of the last thing", 0, 2, Checks.UNKNOWN, test -> s -> s.result(Stock.COUNT - 1, test, 0));

        CHECKS.sentence("10: range: the value (0 .. 10,000)");
        CHECKS.ends("value", 0, 10_000, Checks.RANGE, value -> s -> s.result(Stock.FIT, 0, value));
        CHECKS.ends("value of the last test", 0, 10_000, Checks.RANGE, value -> s -> s.result(Stock.MENDED, 2, value));

        CHECKS.sentence("10: state: it is scrapped");
        for (int test = 0; test < 3; test++) {
            int of = test;
            CHECKS.refused("a pass of test " + test, Checks.STATE, s -> s.result(Stock.SCRAPPED, of, 10_000));
            CHECKS.refused("one more scrap of test " + test, Checks.STATE, s -> s.result(Stock.SCRAPPED, of, 0));
            CHECKS.refused("a scrap of a later day of test " + test, Checks.STATE, () -> Stock.makeOnDay(51),
                s -> s.result(Stock.SCRAPPED, of, 0));
        }
        CHECKS.same("one to be mended", Stock.make().result(Stock.MENDED, 1, 70), 0);
        CHECKS.same("a wet one", Stock.make().result(Stock.WET, 0, 70), 0);
        CHECKS.same("a recalled one", Stock.make().result(Stock.IN_RECALLED_BATCH, 0, 70), 0);
        CHECKS.same("one with a test due", Stock.makeOnDay(120).result(Stock.FIT, 0, 70), 0);
        CHECKS.same("an old one", Stock.makeOnDay(430).result(Stock.FIT, 0, 70), 0);

        CHECKS.sentence("10: A result on the present day: what counts for this test then (0, 1, 2).");
        for (int test = 0; test < 3; test++) {
            HoseTests x = Stock.makeOnDay(99);
            CHECKS.same("to be mended", x.result(Stock.FIT, test, 69), 1);
            CHECKS.same("a pass behind it counts so too", x.result(Stock.FIT, test, 70), 1);
            for (int other = 0; other < 3; other++) {
                CHECKS.same("the latest day", x.thingAt(Stock.FIT, 7 + other), other == test ? 99 : 30);
                CHECKS.same("the uses since", x.thingAt(Stock.FIT, 4 + other), other == test ? 0 : 2);
            }
            CHECKS.same("another thing's latest day", x.thingAt(Stock.WET, 7 + test), 31);
            CHECKS.same("a scrap behind it", x.result(Stock.FIT, test, 39), 2);
            CHECKS.same("the day of it", x.thingAt(Stock.FIT, 10), 99);
        }
    }

    private static void promise11Load() {
        CHECKS.sentence("11: Unknown: no such thing or place");
        CHECKS.refusedEach("thing", Checks.UNKNOWN, thing -> s -> s.load(thing, 1),
            -1, Stock.COUNT, 39, 40, MIN, MAX);
        CHECKS.refused("the one behind all 40", Checks.UNKNOWN, Stock::makeFull, s -> s.load(40, 1));
        CHECKS.taken("the last one of 40", () -> Stock.makeFull().load(39, 1));
        CHECKS.ends("place", 0, 19, Checks.UNKNOWN, place -> s -> s.load(Stock.FIT, place));

        CHECKS.sentence("11: state: it is barred");
        CHECKS.refusedEach("barred thing", Checks.STATE, thing -> s -> s.load(thing, 1),
            Stock.SCRAPPED, Stock.IN_RECALLED_BATCH, Stock.MENDED, Stock.WET);
        CHECKS.refused("to the place where it is", Checks.STATE, s -> s.load(Stock.WET, Stock.PLACE));
        CHECKS.refused("an old one", Checks.STATE, () -> Stock.makeOnDay(430), s -> s.load(Stock.FIT, 1));
        CHECKS.refused("a test due by days", Checks.STATE, () -> Stock.makeOnDay(120), s -> s.load(Stock.FIT, 1));
        CHECKS.taken("the day before it is due", () -> Stock.makeOnDay(119).load(Stock.FIT, 1));
        CHECKS.refused("a test due by uses", Checks.STATE, ThingsEdgesTest::stockWithFourUses,
            s -> s.load(Stock.FIT, 1));

        CHECKS.sentence("11: A thing comes to a place.");
        HoseTests x = Stock.make();
        for (int place : new int[] {0, 19, 19, Stock.PLACE}) {
            x.load(Stock.FIT, place);
            CHECKS.same("its place", x.thingAt(Stock.FIT, 1), place);
        }
        HoseTests y = fullBatch();
        for (int thing = 0; thing < 40; thing++) {
            y.load(thing, thing / 2);
        }
        for (int thing = 0; thing < 40; thing++) {
            CHECKS.same("the place of " + thing, y.thingAt(thing, 1), thing / 2);
        }
    }

    private static void promise12Recall() {
        CHECKS.sentence("12: Unknown: no such batch");
        CHECKS.ends("batch", 0, 9, Checks.UNKNOWN, batch -> s -> s.recall(batch, true));
        CHECKS.refusedEach("batch, not any more", Checks.UNKNOWN, batch -> s -> s.recall(batch, false),
            -1, 10, MIN, MAX);

        CHECKS.sentence("12: state: it is so");
        CHECKS.refused("recalled already", Checks.STATE, s -> s.recall(Stock.RECALLED_BATCH, true));
        CHECKS.refusedEach("not recalled", Checks.STATE, batch -> s -> s.recall(batch, false), 0, Stock.BATCH, 9);
        for (int batch = 0; batch < 10; batch++) {
            int of = batch;
            HoseTests x = new HoseTests();
            CHECKS.throwing("not any more, of one never recalled", Checks.STATE, () -> x.recall(of, false));
            CHECKS.taken("recalled", () -> x.recall(of, true));
            CHECKS.throwing("recalled twice", Checks.STATE, () -> x.recall(of, true));
            CHECKS.taken("not any more", () -> x.recall(of, false));
            CHECKS.throwing("not any more, twice", Checks.STATE, () -> x.recall(of, false));
            CHECKS.taken("recalled once more", () -> x.recall(of, true));
        }

        CHECKS.sentence("12: how many things it has that are not scrapped");
        HoseTests x = Stock.make();
        CHECKS.same("none", x.recall(9, true), 0);
        CHECKS.same("three and a scrapped one", x.recall(Stock.BATCH, true), 3);
        x.result(Stock.FIT, 0, 0);
        CHECKS.same("one more is scrapped", x.recall(Stock.BATCH, false), 2);
        x.result(Stock.WET, 0, 0);
        x.result(Stock.MENDED, 0, 0);
        CHECKS.same("all are scrapped", x.recall(Stock.BATCH, true), 0);
        Stock.add(x, 0, 1, 9, 0, 0);
        CHECKS.same("a new thing of a recalled batch is barred", x.barred(Stock.COUNT), 2);
        CHECKS.same("and counted", x.recall(9, false), 1);
        CHECKS.same("and not barred any more", x.barred(Stock.COUNT), 0);
        CHECKS.same("all 40", fullBatch().recall(9, true), 40);
    }

    private static HoseTests fullBatch() {
        HoseTests x = new HoseTests();
        x.bounds(0, 0, 1, 1);
        for (int thing = 0; thing < 40; thing++) {
            Stock.add(x, 0, thing, 9, 19 - thing % 20, 0);
        }
        return x;
    }

    private static void promise13Recalled() {
        CHECKS.sentence("13: Unknown: no such batch");
        CHECKS.ends("batch", 0, 9, Checks.UNKNOWN, batch -> s -> s.recalled(batch, 0));

        CHECKS.sentence("13: range: i is below 0");
        CHECKS.ends("i", 0, MAX, Checks.RANGE, i -> s -> s.recalled(Stock.BATCH, i));
        CHECKS.ends("i of a batch without things", 0, MAX, Checks.RANGE, i -> s -> s.recalled(9, i));

        CHECKS.sentence("13: -1 when there are not so many");
        HoseTests x = Stock.make();
        CHECKS.same("of a batch without things", x.recalled(9, 0), -1);
        CHECKS.same("the last of three", x.recalled(Stock.BATCH, 2), 203);
        CHECKS.same("one behind them", x.recalled(Stock.BATCH, 3), -1);
        CHECKS.same("far behind them", x.recalled(Stock.BATCH, MAX), -1);
        CHECKS.same("the only one", x.recalled(Stock.RECALLED_BATCH, 0), 403);
        CHECKS.same("one behind it", x.recalled(Stock.RECALLED_BATCH, 1), -1);

        CHECKS.sentence("13: The i-th thing (0 first) of a batch that is not scrapped: 100 times its number, and its place");
        HoseTests y = fullBatch();
        y.result(0, 0, 0);
        y.result(20, 0, 0);
        y.result(39, 0, 0);
        for (int i = 0; i < 37; i++) {
            int thing = i < 19 ? i + 1 : i + 2;
            CHECKS.same("of all 40 but three, " + i, y.recalled(9, i), 100 * thing + 19 - thing % 20);
        }
        CHECKS.same("behind the 37", y.recalled(9, 37), -1);
        y.load(1, 0);
        CHECKS.same("at its new place", y.recalled(9, 0), 100);
        HoseTests z = fullBatch();
        CHECKS.same("the first of 40", z.recalled(9, 0), 19);
        CHECKS.same("the last of 40", z.recalled(9, 39), 3_900);
        CHECKS.same("behind the 40", z.recalled(9, 40), -1);
    }
}
