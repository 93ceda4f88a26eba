/** Promises 6 to 13: thing, letter, use, wash, result, load, recall, recalled. */
public final class ThingsTest {
    private static final Checks CHECKS = new Checks("ThingsTest");

    private ThingsTest() {
    }

    public static void main(String[] args) {
        promise6Thing();
        promise7Letter();
        promise8Use();
        promise9Wash();
        promise10Grades();
        promise10Strictest();
        promise11Load();
        promise12Recall();
        promise13Recalled();
        CHECKS.end();
    }

    private static void promise6Thing() {
        HoseTests x = new HoseTests();
        x.day(20);
        CHECKS.same("the first", x.thing(0, 0, 'A', 0, 0, 0), 0);
        CHECKS.same("the greatest numbers", Stock.add(x, 4, 999_999, 9, 19, 20), 1);
        int[] due = {0, 19, 0, 0, 0, 0, 0, 20, 20, 20, -1};
        for (int what = 0; what < due.length; what++) {
            CHECKS.same("thingAt(1, " + what + ")", x.thingAt(1, what), due[what]);
        }
        CHECKS.same("its batch", x.recalled(9, 0), 119);
        for (int thing = 2; thing < 40; thing++) {
            CHECKS.same("the next", Stock.addPlain(x, 0, thing, 10), thing);
        }
        CHECKS.same("made earlier", x.thingAt(39, 9), 10);
    }

    private static void promise7Letter() {
        HoseTests x = new HoseTests();
        CHECKS.same("letter(0)", x.letter(0), (int) 'A');
        CHECKS.same("letter(1)", x.letter(1), (int) 'B');
        CHECKS.same("letter(10)", x.letter(10), (int) 'D');
        CHECKS.same("letter(100)", x.letter(100), (int) 'H');
        CHECKS.same("letter(1000)", x.letter(1_000), (int) 'B');
        CHECKS.same("letter(10000)", x.letter(10_000), (int) 'D');
        CHECKS.same("letter(100000)", x.letter(100_000), (int) 'H');
        CHECKS.same("letter(123456)", x.letter(123_456), (int) 'T');
        CHECKS.same("letter(301), a sum of 22", x.letter(301), (int) 'W');
        CHECKS.same("letter(302), a sum of 23", x.letter(302), (int) 'A');
        CHECKS.same("letter(999999), a sum of 198", x.letter(999_999), 'A' + 14);
    }

    private static void promise8Use() {
        HoseTests x = new HoseTests();
        x.day(5);
        Stock.addPlain(x, 0, 1, 5);
        Stock.addPlain(x, 0, 2, 4);
        x.use(0);
        x.use(1);
        sameUses("made on the day of its use", x, 0, 0, 0, 0);
        sameUses("made the day before its use", x, 1, 1, 1, 1);
        x.day(6);
        x.use(0);
        x.use(0);
        x.result(0, 1, 9);
        sameUses("with a test behind its uses", x, 0, 2, 0, 2);
        x.use(0);
        sameUses("used on the day of a test", x, 0, 3, 0, 3);
        x.day(7);
        x.use(0);
        sameUses("used a day later", x, 0, 4, 1, 4);
    }

    private static void sameUses(String what, HoseTests x, int thing, int... due) {
        for (int test = 0; test < due.length; test++) {
            CHECKS.same(what + ": uses since test " + test, x.thingAt(thing, 4 + test), due[test]);
        }
    }

    private static void promise9Wash() {
        HoseTests x = Stock.make();
        CHECKS.same("the first wash", x.wash(Stock.FIT, false), 1);
        CHECKS.same("wet", x.thingAt(Stock.FIT, 3), 1);
        CHECKS.same("dried", x.wash(Stock.FIT, true), 1);
        CHECKS.same("not wet", x.thingAt(Stock.FIT, 3), 0);
        CHECKS.same("the second wash", x.wash(Stock.FIT, false), 2);
        CHECKS.same("washed so often", x.thingAt(Stock.FIT, 2), 2);
        CHECKS.same("one to be mended is washed", x.wash(Stock.MENDED, false), 1);
        CHECKS.same("one recalled is washed", x.wash(Stock.IN_RECALLED_BATCH, false), 1);
        CHECKS.same("one dried that was washed", x.wash(Stock.WET, true), 1);
    }

    private static void promise10Grades() {
        HoseTests x = Stock.make();
        CHECKS.same("a pass", x.result(Stock.FIT, 0, 70), 0);
        CHECKS.same("its latest day", x.thingAt(Stock.FIT, 7), Stock.TODAY);
        CHECKS.same("another test's latest day", x.thingAt(Stock.FIT, 8), 30);
        sameUses("after a pass", x, Stock.FIT, 0, 2, 2);
        CHECKS.same("one to be mended", x.result(Stock.FIT, 1, 69), 1);
        CHECKS.same("what it is then", x.thingAt(Stock.FIT, 0), 1);
        CHECKS.same("another test that passes", x.result(Stock.FIT, 2, 10_000), 0);
        CHECKS.same("it is still to be mended", x.thingAt(Stock.FIT, 0), 1);
        CHECKS.same("a scrap", x.result(Stock.FIT, 2, 39), 2);
        CHECKS.same("what it is then", x.thingAt(Stock.FIT, 0), 2);
        CHECKS.same("the day of it", x.thingAt(Stock.FIT, 10), Stock.TODAY);
        CHECKS.same("a test of one to be mended", x.result(Stock.MENDED, 1, 80), 0);
        CHECKS.same("a test of one in a recalled batch", x.result(Stock.IN_RECALLED_BATCH, 0, 80), 0);
        CHECKS.same("a test of a wet one", x.result(Stock.WET, 0, 80), 0);
        HoseTests y = Stock.make();
        CHECKS.same("one to be mended that is scrapped", y.result(Stock.MENDED, 0, 0), 2);
        y.day(60);
        CHECKS.same("stays so", y.thingAt(Stock.MENDED, 0), 2);
        CHECKS.same("since its day", y.thingAt(Stock.MENDED, 10), Stock.TODAY);
        CHECKS.same("its test's latest day", y.thingAt(Stock.MENDED, 7), Stock.TODAY);
    }

    private static void promise10Strictest() {
        HoseTests x = Stock.make();
        CHECKS.same("a pass on the day of a worse one", x.result(Stock.MENDED, 0, 100), 1);
        CHECKS.same("to be mended still", x.thingAt(Stock.MENDED, 0), 1);
        CHECKS.same("the other test's own", x.result(Stock.MENDED, 1, 50), 1);
        x.day(51);
        CHECKS.same("a pass on the next day", x.result(Stock.MENDED, 0, 100), 0);
        CHECKS.same("to be mended by the other test", x.thingAt(Stock.MENDED, 0), 1);
        CHECKS.same("its pass", x.result(Stock.MENDED, 1, 100), 0);
        CHECKS.same("fit again", x.thingAt(Stock.MENDED, 0), 0);
        CHECKS.same("worse on the same day", x.result(Stock.MENDED, 1, 69), 1);
        CHECKS.same("to be mended again", x.thingAt(Stock.MENDED, 0), 1);
        HoseTests y = new HoseTests();
        y.bounds(0, 0, 1, 2);
        Stock.addPlain(y, 0, 5, 0);
        CHECKS.same("a worse one on the day of its making", y.result(0, 0, 1), 1);
        y.bounds(0, 0, 0, 0);
        CHECKS.same("bounds told later leave a result as it was", y.thingAt(0, 0), 1);
    }

    private static void promise11Load() {
        HoseTests x = Stock.make();
        x.load(Stock.FIT, 19);
        CHECKS.same("its place", x.thingAt(Stock.FIT, 1), 19);
        x.load(Stock.FIT, 19);
        x.load(Stock.FIT, 0);
        CHECKS.same("its next place", x.thingAt(Stock.FIT, 1), 0);
        CHECKS.same("another's place", x.thingAt(Stock.WET, 1), 3);
        x.wash(Stock.WET, true);
        x.load(Stock.WET, 4);
        CHECKS.same("one's that was dried", x.thingAt(Stock.WET, 1), 4);
    }

    private static void promise12Recall() {
        HoseTests x = Stock.make();
        CHECKS.same("a batch of four with one scrapped", x.recall(2, true), 3);
        CHECKS.same("its fit thing", x.barred(Stock.FIT), 2);
        CHECKS.same("not any more", x.recall(2, false), 3);
        CHECKS.same("its fit thing then", x.barred(Stock.FIT), 0);
        CHECKS.same("the other batch's", x.barred(Stock.IN_RECALLED_BATCH), 2);
        CHECKS.same("an empty batch", x.recall(9, true), 0);
        CHECKS.same("the first batch", x.recall(0, true), 0);
        Stock.add(x, 0, 1, 9, 0, Stock.TODAY);
        CHECKS.same("a new thing of a recalled batch", x.barred(Stock.COUNT), 2);
    }

    private static void promise13Recalled() {
        HoseTests x = Stock.make();
        x.load(Stock.FIT, 19);
        CHECKS.same("the first", x.recalled(2, 0), 19);
        CHECKS.same("the second", x.recalled(2, 1), 103);
        CHECKS.same("the third", x.recalled(2, 2), 203);
        CHECKS.same("not so many, one being scrapped", x.recalled(2, 3), -1);
        CHECKS.same("far more", x.recalled(2, Integer.MAX_VALUE), -1);
        CHECKS.same("a recalled batch's", x.recalled(Stock.RECALLED_BATCH, 0), 403);
        CHECKS.same("an empty batch's", x.recalled(9, 0), -1);
        x.result(Stock.FIT, 0, 0);
        CHECKS.same("the first when one more is scrapped", x.recalled(2, 0), 103);
    }
}
