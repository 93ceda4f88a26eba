/** The edges of promises 19 and 20: plan, week. */
public final class PlanEdgesTest {
    private static final Checks CHECKS = new Checks("PlanEdgesTest");
    /** Each test's last week is 3. */
    private static final int ANY_WEEK = 0xFFF;

    private PlanEdgesTest() {
    }

    public static void main(String[] args) {
        promise19Refusals();
        promise19Bits();
        promise19LastWeeks();
        promise19Least();
        promise19FirstByTests();
        promise19AllSmallPlans();
        promise20Week();
        CHECKS.end();
    }

    private static void promise19Refusals() {
        CHECKS.sentence("19: Range: n (0 .. 6)");
        for (int weeks = 1; weeks <= 4; weeks++) {
            int over = weeks;
            CHECKS.ends("n over " + weeks, 0, 6, Checks.RANGE, n -> s -> s.plan(0x0907_0503L, ANY_WEEK, n, over));
        }

        CHECKS.sentence("19: Range: weeks (1 .. 4)");
        for (int n = 0; n <= 6; n++) {
            int tests = n;
            CHECKS.ends("weeks of " + n, 1, 4, Checks.RANGE,
                weeks -> s -> s.plan(0x0907_0503L, ANY_WEEK, tests, weeks));
        }
        CHECKS.refused("both", Checks.RANGE, s -> s.plan(0L, 0, 7, 0));
        CHECKS.refused("of a new object", Checks.RANGE, HoseTests::new, s -> s.plan(0L, 0, 7, 1));
    }

    private static void promise19Bits() {
        CHECKS.sentence("19: loads by bytes (test i: bits 8 i .. 8 i + 7)");
        for (int test = 0; test < 6; test++) {
            HoseTests x = new HoseTests();
            CHECKS.same("its least bit", x.plan(1L << 8 * test, 0, 6, 1), 1);
            CHECKS.same("its greatest bit", x.plan(128L << 8 * test, 0, 6, 1), 128);
            CHECKS.same("all its bits", x.plan(255L << 8 * test, 0, test + 1, 1), 255);
            CHECKS.same("not among the tests before it", x.plan(255L << 8 * test, 0, test, 1), 0);
        }
        HoseTests x = new HoseTests();
        CHECKS.same("bits behind the sixth byte", x.plan(0xFFFF_0000_0000_0000L, ANY_WEEK, 6, 1), 0);
        CHECKS.same("all bits", x.plan(-1L, -1, 6, 1), 6 * 255);
        CHECKS.same("the least long", x.plan(Long.MIN_VALUE, Integer.MIN_VALUE, 6, 4), 0);

        CHECKS.sentence("19: last weeks by bits 2 i, 2 i + 1");
        for (int test = 0; test < 6; test++) {
            long loads = 9L << 8 * test | 9L << 8 * ((test + 1) % 6);
            for (int last = 0; last < 4; last++) {
                CHECKS.same("both in week 0 but for test " + test + " up to " + last,
                    x.plan(loads, last << 2 * test, 6, 4), last == 0 ? 18 : 9);
                CHECKS.same("its week", x.week(test), last == 0 ? 0 : 1);
            }
        }
        CHECKS.same("bits behind the twelfth", x.plan(0x0909L, 0xFFFF_F000, 6, 4), 18);
    }

    private static void promise19LastWeeks() {
        CHECKS.sentence("19: (A last week behind the weeks is the last of them.)");
        HoseTests x = new HoseTests();
        for (int weeks = 1; weeks <= 4; weeks++) {
            for (int last = 0; last < 4; last++) {
                int lasts = last * 0b01_01_01_01_01_01;
                int over = Math.min(weeks, last + 1);
                CHECKS.same("six equal ones over " + weeks + " up to " + last, x.plan(0x0101_0101_0101L, lasts, 6, weeks),
                    (6 + over - 1) / over);
                for (int test = 0; test < 6; test++) {
                    CHECKS.same("not behind it", x.week(test) < over, true);
                }
            }
        }
        CHECKS.same("one week, all behind it", x.plan(0x0705_03L, ANY_WEEK, 3, 1), 15);
        sameWeeks("one week", x, 0, 0, 0);
        CHECKS.same("two weeks, last weeks 3 and 0", x.plan(0x0505L, 0b00_11, 2, 2), 5);
        sameWeeks("two weeks", x, 1, 0);
    }

    private static void promise19Least() {
        CHECKS.sentence("A PLAN of n tests (0 .. 6): none, one, six");
        HoseTests x = new HoseTests();
        for (int weeks = 1; weeks <= 4; weeks++) {
            CHECKS.same("none over " + weeks, x.plan(-1L, -1, 0, weeks), 0);
            sameWeeks("none", x);
            CHECKS.same("one over " + weeks, x.plan(-1L, -1, 1, weeks), 255);
            sameWeeks("one", x, 0);
        }
        CHECKS.same("six greatest over two", x.plan(-1L, -1, 6, 2), 3 * 255);
        CHECKS.same("six greatest over three", x.plan(-1L, -1, 6, 3), 2 * 255);
        CHECKS.same("six greatest over four", x.plan(-1L, -1, 6, 4), 2 * 255);
        CHECKS.same("six without a load", x.plan(0L, -1, 6, 4), 0);
        sameWeeks("six without a load", x, 0, 0, 0, 0, 0, 0);

        CHECKS.sentence("the greatest sum of loads of a week is least");
        CHECKS.same("where the greatest first is not least", x.plan(0x0202_0203_03L, ANY_WEEK, 5, 2), 6);
        sameWeeks("3 3 2 2 2", x, 0, 0, 1, 1, 1);
        CHECKS.same("each last week its own", x.plan(0x0404_0404L, 0b11_10_01_00, 4, 4), 4);
        sameWeeks("a week each", x, 0, 1, 2, 3);
        CHECKS.same("last weeks the other way", x.plan(0x0404_0404L, 0b00_01_10_11, 4, 4), 4);
        sameWeeks("a week each, from the last", x, 3, 2, 1, 0);
    }

    private static void promise19FirstByTests() {
        CHECKS.sentence("of these plans the first one by tests (test 0's week the lowest possible, then test 1's, ..)");
        HoseTests x = new HoseTests();
        x.plan(-1L, -1, 6, 4);
        sameWeeks("six equal ones", x, 0, 0, 1, 1, 2, 2);
        x.plan(0x0A01_0101L, ANY_WEEK, 4, 4);
        sameWeeks("small ones beside a great one", x, 0, 0, 0, 1);
        x.plan(0x0101_010AL, ANY_WEEK, 4, 4);
        sameWeeks("small ones behind a great one", x, 0, 1, 1, 1);
        x.plan(0x0A00L, ANY_WEEK, 2, 4);
        sameWeeks("one without a load", x, 0, 0);
        x.plan(0x0505L, 0b00_11, 2, 4);
        sameWeeks("one that must leave week 0", x, 1, 0);
    }

    private static void sameWeeks(String what, HoseTests x, int... due) {
        for (int test = 0; test < due.length; test++) {
            CHECKS.same("week " + test + " of " + what, x.week(test), due[test]);
        }
        CHECKS.throwing("one week more of " + what, Checks.UNKNOWN, () -> x.week(due.length));
    }

    /** Up to four tests of loads 0 to 3 with all last weeks, against every plan there is. */
    private static void promise19AllSmallPlans() {
        CHECKS.sentence("each is put to a week 0 .. w - 1 not behind its last one; the greatest .. is least; the first");
        int wrong = 0;
        HoseTests x = new HoseTests();
        for (int weeks = 1; weeks <= 4; weeks++) {
            for (int n = 0; n <= 4; n++) {
                for (int bits = 0; bits < 1 << 4 * n; bits++) {
                    x = bits % 64 == 0 ? new HoseTests() : x;
                    wrong += isFirstLeast(x, bits, n, weeks) ? 0 : 1;
                }
            }
        }
        CHECKS.same("wrong plans", wrong, 0);
    }

    private static boolean isFirstLeast(HoseTests x, int bits, int n, int weeks) {
        int[] loads = new int[n];
        int[] lasts = new int[n];
        long allLoads = 0;
        int allLasts = 0;
        for (int test = 0; test < n; test++) {
            loads[test] = bits >> 4 * test & 3;
            lasts[test] = bits >> 4 * test + 2 & 3;
            allLoads |= (long) loads[test] << 8 * test;
            allLasts |= lasts[test] << 2 * test;
        }
        int least = Integer.MAX_VALUE;
        int first = 0;
        // Test 0's week is the greatest digit, so that plans come in the document's order.
        for (int plan = 0; plan < 1 << 2 * n; plan++) {
            int greatest = greatestOf(plan, loads, lasts, weeks);
            if (greatest < least) {
                least = greatest;
                first = plan;
            }
        }
        boolean right = x.plan(allLoads, allLasts, n, weeks) == least;
        for (int test = 0; test < n; test++) {
            right &= x.week(test) == (first >> 2 * (n - 1 - test) & 3);
        }
        return right;
    }

    /** The greatest week's load of a plan; the greatest int if a test is behind its last week or the weeks. */
    private static int greatestOf(int plan, int[] loads, int[] lasts, int weeks) {
        int[] sums = new int[4];
        int greatest = 0;
        for (int test = 0; test < loads.length; test++) {
            int week = plan >> 2 * (loads.length - 1 - test) & 3;
            if (week > lasts[test] || week >= weeks) {
                return Integer.MAX_VALUE;
            }
            sums[week] += loads[test];
            greatest = Math.max(greatest, sums[week]);
        }
        return greatest;
    }

    private static void promise20Week() {
        CHECKS.sentence("20: Unknown: it has no such test.");
        CHECKS.ends("test of a plan of three", 0, 2, Checks.UNKNOWN, test -> s -> s.week(test));
        for (int test : new int[] {-1, 0, 1, 5, 6}) {
            CHECKS.refused("without a plan, " + test, Checks.UNKNOWN, HoseTests::new, s -> s.week(test));
        }
        HoseTests x = new HoseTests();
        for (int n : new int[] {6, 5, 4, 3, 2, 1, 0, 1, 6}) {
            x.plan(-1L, -1, n, 2);
            for (int test = 0; test < 7; test++) {
                int of = test;
                if (test < n) {
                    CHECKS.taken("test " + test + " of " + n, () -> x.week(of));
                } else {
                    CHECKS.throwing("test " + test + " of " + n, Checks.UNKNOWN, () -> x.week(of));
                }
            }
            CHECKS.throwing("test -1 of " + n, Checks.UNKNOWN, () -> x.week(-1));
        }

        CHECKS.sentence("20: of the latest plan");
        HoseTests y = Stock.make();
        sameWeeks("the first plan", y, 0, 0, 1);
        y.plan(0x0101L, ANY_WEEK, 2, 2);
        sameWeeks("the next plan", y, 0, 1);
        CHECKS.throwing("a plan of seven", Checks.RANGE, () -> y.plan(0L, 0, 7, 1));
        CHECKS.throwing("a plan over five weeks", Checks.RANGE, () -> y.plan(0L, 0, 1, 5));
        CHECKS.throwing("a plan over no weeks", Checks.RANGE, () -> y.plan(0L, 0, 0, 0));
        sameWeeks("the plan before the refused ones", y, 0, 1);
        y.plan(0L, 0, 0, 1);
        sameWeeks("a plan of none", y);
    }
}
