/** The edges that the document's terms name, sentence by sentence. */
public final class TermsEdgesTest {
    private static final Checks CHECKS = new Checks("TermsEdgesTest");
    private static final int PASS = 70;
    private static final int LOW = 40;
    /** A value of each grade with these bounds: it passes, is to be mended, is scrapped. */
    private static final int[] VALUES = {PASS, LOW, LOW - 1};

    private TermsEdgesTest() {
    }

    public static void main(String[] args) {
        days();
        ages();
        testsByDays();
        testsByUses();
        bounds();
        things();
        newThings();
        usesOnLatestDays();
        grades();
        strictestOfADay();
        latestDayCounts();
        mendedAsLongAs();
        scrappedStays();
        due();
        old();
        barredForTheFirst();
        letters();
        callsUpTo512();
        CHECKS.end();
    }

    private static void days() {
        CHECKS.sentence("DAYS are 0 .. 99,999");
        CHECKS.taken("the first day", () -> new HoseTests().day(0));
        CHECKS.taken("the last day", () -> new HoseTests().day(99_999));
        CHECKS.refused("a day below", Checks.RANGE, HoseTests::new, s -> s.day(-1));
        CHECKS.refused("a day above", Checks.RANGE, HoseTests::new, s -> s.day(100_000));

        CHECKS.sentence("THE DAY is 0 at first");
        CHECKS.taken("made on day 0", () -> Stock.addPlain(new HoseTests(), 0, 0, 0));
        CHECKS.refused("made on day 1", Checks.RANGE, HoseTests::new, s -> Stock.addPlain(s, 0, 0, 1));

        CHECKS.sentence("and never goes back");
        CHECKS.taken("the present day again", () -> Stock.make().day(Stock.TODAY));
        CHECKS.refused("the day before", Checks.RANGE, s -> s.day(Stock.TODAY - 1));
        CHECKS.refused("the first day", Checks.RANGE, s -> s.day(0));
        CHECKS.refused("back from the last day", Checks.RANGE, () -> Stock.makeOnDay(99_999), s -> s.day(99_998));
    }

    private static void ages() {
        for (int kind = 0; kind < 5; kind++) {
            CHECKS.sentence("KINDS 0 .. 4 have an AGE (.. 0: none, at first): " + kind);
            HoseTests x = new HoseTests();
            Stock.addPlain(x, kind, 1, 0);
            CHECKS.same("no end at first", x.ends(0), -1);
            x.age(kind, 20_000);
            CHECKS.same("the end of the greatest age", x.ends(0), 20_000);
            x.age(kind, 1);
            CHECKS.same("the end of the least age", x.ends(0), 1);
            x.day(99_999);
            CHECKS.same("old on the last day", x.barred(0), 3);
            x.age(kind, 0);
            CHECKS.same("none", x.ends(0), -1);
            CHECKS.same("never old without one", x.barred(0), 0);
            CHECKS.taken("used without one", () -> x.use(0));
        }
    }

    private static void testsByDays() {
        for (int kind = 0; kind < 5; kind++) {
            for (int test = 0; test < 3; test++) {
                CHECKS.sentence("TESTS 0 .. 2 .. DAYS (0 .. 5,000; 0: none, at first): " + kind + ", " + test);
                HoseTests x = new HoseTests();
                Stock.addPlain(x, kind, 1, 0);
                x.test(kind, test, 5_000, 0);
                CHECKS.same("the most days", x.ends(0), 5_000);
                x.test(kind, test, 1, 0);
                CHECKS.same("the least days", x.ends(0), 1);
                x.day(99_999);
                CHECKS.same("due on the last day", x.barred(0), 4);
                x.test(kind, test, 0, 0);
                CHECKS.same("no days, no end", x.ends(0), -1);
                CHECKS.same("no days, not due", x.barred(0), 0);
            }
        }
    }

    private static void testsByUses() {
        for (int kind = 0; kind < 5; kind++) {
            for (int test = 0; test < 3; test++) {
                CHECKS.sentence("USES (0 .. 1,000; 0: none, at first): " + kind + ", " + test);
                HoseTests x = new HoseTests();
                Stock.addPlain(x, kind, 1, 0);
                x.day(1);
                x.use(0);
                CHECKS.same("not due at first", x.barred(0), 0);
                x.test(kind, test, 0, 1);
                CHECKS.same("the least uses are reached", x.barred(0), 4);
                x.test(kind, test, 0, 1_000);
                CHECKS.same("the most uses are not reached", x.barred(0), 0);
                x.test(kind, test, 0, 0);
                CHECKS.same("no uses, not due", x.barred(0), 0);
                CHECKS.same("no uses, no end", x.ends(0), -1);
            }
        }
    }

    private static void bounds() {
        for (int kind = 0; kind < 5; kind++) {
            for (int test = 0; test < 3; test++) {
                CHECKS.sentence("two bounds LOW <= PASS (0 .. 10,000; 0 at first): " + kind + ", " + test);
                HoseTests x = new HoseTests();
                for (int serial = 0; serial < 4; serial++) {
                    Stock.addPlain(x, kind, serial, 0);
                }
                CHECKS.same("the least value at first", x.result(0, test, 0), 0);
                x.bounds(kind, test, 10_000, 10_000);
                CHECKS.same("the greatest bounds", x.result(1, test, 10_000), 0);
                CHECKS.same("one below both", x.result(1, test, 9_999), 2);
                x.bounds(kind, test, 0, 10_000);
                CHECKS.same("one below the pass bound", x.result(2, test, 9_999), 1);
                CHECKS.same("the least value, with the least low bound", x.result(3, test, 0), 1);
                x.bounds(kind, test, 0, 0);
                CHECKS.same("the least bounds", x.result(0, test, 0), 0);
            }
        }
    }

    private static void things() {
        CHECKS.sentence("THINGS 0, 1, .. (at most 40)");
        HoseTests x = new HoseTests();
        CHECKS.throwing("no thing yet", Checks.UNKNOWN, () -> x.barred(0));
        for (int thing = 0; thing < 40; thing++) {
            CHECKS.same("the next number", Stock.addPlain(x, thing % 5, thing, 0), thing);
        }
        CHECKS.same("the last one is there", x.barred(39), 0);
        CHECKS.throwing("the 41st", Checks.NO_ROOM, () -> Stock.addPlain(x, 0, 40, 0));
        CHECKS.throwing("nothing is there for it", Checks.UNKNOWN, () -> x.barred(40));
        x.bounds(0, 0, 1, 1);
        x.result(0, 0, 0);
        CHECKS.throwing("scrapped ones keep their room", Checks.NO_ROOM, () -> Stock.addPlain(x, 0, 40, 0));

        CHECKS.sentence("a SERIAL (0 .. 999,999; each once)");
        HoseTests y = new HoseTests();
        CHECKS.same("the least", Stock.addPlain(y, 0, 0, 0), 0);
        CHECKS.same("the greatest", Stock.addPlain(y, 0, 999_999, 0), 1);
        CHECKS.throwing("the least again", Checks.STATE, () -> Stock.addPlain(y, 1, 0, 0));
        CHECKS.throwing("the greatest again", Checks.STATE, () -> Stock.addPlain(y, 1, 999_999, 0));
        CHECKS.same("one beside", Stock.addPlain(y, 0, 999_998, 0), 2);
    }

    private static void newThings() {
        CHECKS.sentence("MADE (the present one, or earlier)");
        CHECKS.taken("the present one", () -> Stock.addPlain(Stock.make(), 0, 0, Stock.TODAY));
        CHECKS.taken("the day before", () -> Stock.addPlain(Stock.make(), 0, 0, Stock.TODAY - 1));
        CHECKS.taken("the first of all", () -> Stock.addPlain(Stock.make(), 0, 0, 0));
        CHECKS.refused("the next one", Checks.RANGE, s -> Stock.addPlain(s, 0, 0, Stock.TODAY + 1));
        CHECKS.taken("the last of all", () -> Stock.addPlain(Stock.makeOnDay(99_999), 0, 0, 99_999));

        CHECKS.sentence("FIT (0, at first) .. dry .. the latest one (at first the one on which they were made)");
        for (int made : new int[] {0, 49, Stock.TODAY}) {
            HoseTests x = Stock.make();
            int thing = Stock.add(x, 1, 9, 9, 19, made);
            int[] due = {0, 19, 0, 0, 0, 0, 0, made, made, made, -1};
            for (int what = 0; what < due.length; what++) {
                CHECKS.same("made on " + made + ": " + what, x.thingAt(thing, what), due[what]);
            }
        }
    }

    private static void usesOnLatestDays() {
        CHECKS.sentence("A USE counts for all tests");
        HoseTests x = new HoseTests();
        Stock.addPlain(x, 0, 1, 0);
        x.day(1);
        x.use(0);
        sameUses("one use", x, 1, 1, 1);

        CHECKS.sentence("one on the latest day .. (also the day on which it was made) does not count for that test");
        HoseTests y = new HoseTests();
        Stock.addPlain(y, 0, 1, 0);
        y.use(0);
        sameUses("made on this day", y, 0, 0, 0);
        y.day(1);
        y.use(0);
        sameUses("made the day before", y, 1, 1, 1);
        for (int test = 0; test < 3; test++) {
            y.day(2 + test);
            y.use(0);
            int[] due = {y.thingAt(0, 4) + 1, y.thingAt(0, 5) + 1, y.thingAt(0, 6) + 1};
            due[test] = 0;
            y.result(0, test, 0);
            y.use(0);
            sameUses("on the latest day of test " + test, y, due);
            y.result(0, test, 0);
            sameUses("with one more result on this day", y, due);
        }
        y.day(5);
        y.use(0);
        sameUses("the day behind the latest one", y, 5, 3, 1);
    }

    private static void sameUses(String what, HoseTests x, int... due) {
        for (int test = 0; test < due.length; test++) {
            CHECKS.same(what + ", test " + test, x.thingAt(0, 4 + test), due[test]);
        }
    }

    private static void grades() {
        CHECKS.sentence("from the pass bound on it passes (0), from the low one on .. mended (1), below .. scrapped (2)");
        for (int test = 0; test < 3; test++) {
            sameGrade(test, 10_000, 0);
            sameGrade(test, PASS + 1, 0);
            sameGrade(test, PASS, 0);
            sameGrade(test, PASS - 1, 1);
            sameGrade(test, LOW + 1, 1);
            sameGrade(test, LOW, 1);
            sameGrade(test, LOW - 1, 2);
            sameGrade(test, 0, 2);
        }
    }

    private static void sameGrade(int test, int value, int due) {
        HoseTests x = oneWithBounds();
        CHECKS.same(value + " of test " + test, x.result(0, test, value), due);
        CHECKS.same("what it is with " + value + " of test " + test, x.thingAt(0, 0), due);
        CHECKS.same("the day of a scrap with " + value, x.thingAt(0, 10), due == 2 ? 0 : -1);
    }

    private static HoseTests oneWithBounds() {
        HoseTests x = new HoseTests();
        for (int test = 0; test < 3; test++) {
            x.bounds(0, test, LOW, PASS);
        }
        Stock.addPlain(x, 0, 1, 0);
        return x;
    }

    private static void strictestOfADay() {
        CHECKS.sentence("Of results of one test of a thing on one day the STRICTEST counts (the greatest of these)");
        for (int test = 0; test < 3; test++) {
            for (int order = 0; order < 27; order++) {
                strictestOf(test, order % 3, order / 3 % 3, order / 9);
            }
        }
    }

    /** The grades of one test's results on a day behind the one on which the thing was made. */
    private static void strictestOf(int test, int... grades) {
        HoseTests x = oneWithBounds();
        x.day(1);
        int strictest = 0;
        for (int grade : grades) {
            int value = VALUES[grade];
            if (strictest == 2) {
                CHECKS.throwing("behind a scrap", Checks.STATE, () -> x.result(0, test, value));
            } else {
                strictest = Math.max(strictest, grade);
                CHECKS.same("what counts", x.result(0, test, value), strictest);
            }
            CHECKS.same("what it is", x.thingAt(0, 0), strictest);
        }
    }

    private static void latestDayCounts() {
        CHECKS.sentence("it is to be mended as long as some test's latest day counts so");
        for (int test = 0; test < 3; test++) {
            HoseTests x = oneWithBounds();
            CHECKS.same("mended on the day of its making", x.result(0, test, LOW), 1);
            CHECKS.same("a pass on the same day", x.result(0, test, PASS), 1);
            x.day(1);
            CHECKS.same("mended still on the next day", x.thingAt(0, 0), 1);
            CHECKS.same("a pass of another test", x.result(0, (test + 1) % 3, PASS), 0);
            CHECKS.same("mended still behind it", x.thingAt(0, 0), 1);
            CHECKS.same("a pass on the next day", x.result(0, test, PASS), 0);
            CHECKS.same("fit then", x.thingAt(0, 0), 0);
            CHECKS.same("mended again on that day", x.result(0, test, LOW), 1);
            x.day(99_999);
            CHECKS.same("mended to the last day", x.thingAt(0, 0), 1);
            CHECKS.same("a pass on the last day", x.result(0, test, PASS), 0);
            CHECKS.same("fit on the last day", x.thingAt(0, 0), 0);
        }
    }

    private static void mendedAsLongAs() {
        for (int mended = 0; mended < 8; mended++) {
            CHECKS.sentence("some test's latest day counts so; otherwise fit: tests " + Integer.toBinaryString(mended));
            HoseTests x = oneWithBounds();
            for (int test = 0; test < 3; test++) {
                x.result(0, test, VALUES[mended >> test & 1]);
            }
            x.day(1);
            int left = mended;
            for (int test = 0; test < 3; test++) {
                CHECKS.same("what it is", x.thingAt(0, 0), left == 0 ? 0 : 1);
                CHECKS.same("what bars it", x.barred(0), left == 0 ? 0 : 5);
                x.result(0, test, PASS);
                left &= ~(1 << test);
            }
            CHECKS.same("fit when all have passed", x.thingAt(0, 0), 0);
        }
    }

    private static void scrappedStays() {
        CHECKS.sentence("One that is scrapped stays so");
        for (int test = 0; test < 3; test++) {
            HoseTests x = oneWithBounds();
            x.day(1);
            x.result(0, test, LOW - 1);
            for (int other = 0; other < 3; other++) {
                int of = other;
                CHECKS.throwing("a pass on the same day", Checks.STATE, () -> x.result(0, of, PASS));
            }
            x.bounds(0, test, 0, 0);
            x.day(99_999);
            CHECKS.throwing("a pass on the last day", Checks.STATE, () -> x.result(0, 0, PASS));
            CHECKS.same("what it is", x.thingAt(0, 0), 2);
            CHECKS.same("since which day", x.thingAt(0, 10), 1);
            CHECKS.same("what bars it", x.barred(0), 1);
            CHECKS.same("its end", x.ends(0), -1);
        }
    }

    private static void due() {
        CHECKS.sentence("DUE on a day when its days (if there are some) have gone by since the latest");
        sameDueByDays(1);
        sameDueByDays(2);
        sameDueByDays(5_000);

        CHECKS.sentence("or its uses (if there are some) are reached");
        sameDueByUses(1);
        sameDueByUses(2);
        sameDueByUses(400);

        CHECKS.sentence("its days .. or its uses");
        HoseTests x = new HoseTests();
        x.test(0, 1, 10, 2);
        Stock.addPlain(x, 0, 1, 0);
        x.day(9);
        x.use(0);
        CHECKS.same("neither", x.barred(0), 0);
        x.use(0);
        CHECKS.same("uses alone", x.barred(0), 4);
        x.result(0, 1, 0);
        CHECKS.same("neither again", x.barred(0), 0);
        x.day(19);
        CHECKS.same("days alone", x.barred(0), 4);
    }

    private static void sameDueByDays(int days) {
        for (int test = 0; test < 3; test++) {
            HoseTests x = new HoseTests();
            x.test(0, test, days, 0);
            x.day(7);
            Stock.addPlain(x, 0, 1, 7);
            for (int latest = 7; latest <= 7 + days; latest += days) {
                x.day(latest + days - 1);
                CHECKS.same(days + " days: the day before", x.barred(0), 0);
                x.day(latest + days);
                CHECKS.same(days + " days: its day", x.barred(0), 4);
                x.result(0, test, 0);
                CHECKS.same(days + " days: tested", x.barred(0), 0);
            }
        }
    }

    private static void sameDueByUses(int uses) {
        for (int test = 0; test < 3; test++) {
            HoseTests x = new HoseTests();
            x.test(0, test, 0, uses);
            Stock.addPlain(x, 0, 1, 0);
            x.day(1);
            for (int use = 1; use < uses; use++) {
                x.use(0);
            }
            CHECKS.same(uses + " uses: one before", x.barred(0), 0);
            x.use(0);
            CHECKS.same(uses + " uses: reached", x.barred(0), 4);
            CHECKS.throwing(uses + " uses: one more", Checks.STATE, () -> x.use(0));
            x.result(0, test, 0);
            CHECKS.same(uses + " uses: tested", x.barred(0), 0);
        }
    }

    private static void old() {
        CHECKS.sentence("OLD on a day when its kind's age (if there is one) has gone by since it was made");
        for (int age : new int[] {1, 2, 20_000}) {
            HoseTests x = new HoseTests();
            x.age(0, age);
            x.day(7);
            Stock.addPlain(x, 0, 1, 7);
            x.day(7 + age - 1);
            CHECKS.same(age + " days: the day before", x.barred(0), 0);
            x.result(0, 0, 0);
            x.day(7 + age);
            CHECKS.same(age + " days: its day", x.barred(0), 3);
            x.result(0, 0, 0);
            CHECKS.same(age + " days: a test makes it no younger", x.barred(0), 3);
            Stock.addPlain(x, 0, 2, 7);
            CHECKS.same(age + " days: one told late", x.barred(1), 3);
        }
    }

    private static void barredForTheFirst() {
        for (int reasons = 0; reasons < 64; reasons++) {
            CHECKS.sentence("BARRED for the first of (1 the lowest bit): " + Integer.toBinaryString(reasons));
            HoseTests x = barredFor(reasons);
            CHECKS.same("barred", x.barred(0), reasons == 0 ? 0 : Integer.numberOfTrailingZeros(reasons) + 1);
            int of = reasons;
            if (reasons == 0) {
                CHECKS.taken("use", () -> x.use(0));
                CHECKS.taken("load", () -> x.load(0, 1));
            } else {
                CHECKS.refused("use", Checks.STATE, () -> barredFor(of), s -> s.use(0));
                CHECKS.refused("load", Checks.STATE, () -> barredFor(of), s -> s.load(0, 1));
            }
        }
    }

    private static HoseTests barredFor(int reasons) {
        HoseTests x = oneWithBounds();
        x.age(0, (reasons & 4) != 0 ? 10 : 11);
        x.test(0, 1, (reasons & 8) != 0 ? 10 : 11, 0);
        x.day(10);
        if ((reasons & 32) != 0) {
            x.wash(0, false);
        }
        if ((reasons & 16) != 0) {
            x.result(0, 0, LOW);
        }
        if ((reasons & 2) != 0) {
            x.recall(0, true);
        }
        if ((reasons & 1) != 0) {
            x.result(0, 2, LOW - 1);
        }
        return x;
    }

    private static void letters() {
        CHECKS.sentence("the remainder by 23 of the sum of its digits times 1, 3, 7, 1, 3, 7 (the last digit times 1)");
        int wrong = 0;
        HoseTests x = new HoseTests();
        for (int serial = 0; serial <= 999_999; serial++) {
            if (serial % 500 == 0) {
                x = new HoseTests();
            }
            String digits = String.valueOf(1_000_000 + serial);
            int sum = 0;
            for (int at = 0; at < 6; at++) {
                sum += Character.digit(digits.charAt(6 - at), 10) * Character.digit("137137".charAt(at), 10);
            }
            wrong += x.letter(serial) == "ABCDEFGHIJKLMNOPQRSTUVW".charAt(sum % 23) ? 0 : 1;
        }
        CHECKS.same("wrong letters of all serials", wrong, 0);
    }

    private static void callsUpTo512() {
        CHECKS.sentence("An object is used for at most 512 calls");
        HoseTests x = new HoseTests();
        x.thing(0, 0, 'A', 0, 0, 0);
        x.day(1);
        for (int call = 3; call <= 511; call++) {
            x.use(0);
        }
        CHECKS.same("the 512th call", x.thingAt(0, 6), 509);
        HoseTests y = new HoseTests();
        y.thing(0, 0, 'A', 0, 0, 0);
        for (int call = 2; call <= 510; call += 2) {
            y.wash(0, false);
            y.wash(0, true);
        }
        CHECKS.same("the 512th call", y.wash(0, false), 256);
    }
}
