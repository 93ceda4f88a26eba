/** Promises 19 and 20: plan, week. */
public final class PlanTest {
    private static final Checks CHECKS = new Checks("PlanTest");

    private PlanTest() {
    }

    public static void main(String[] args) {
        promise19Plan();
        promise19Edges();
        promise20Week();
        CHECKS.end();
    }

    private static void promise19Plan() {
        HoseTests x = new HoseTests();
        CHECKS.same("2, 4, 4, 5 over two", x.plan(0x05040402L, 0xFFF, 4, 2), 8);
        sameWeeks("of 2, 4, 4, 5", x, 0, 1, 1, 0);
        CHECKS.same("equal ones over two", x.plan(0x01010101L, 0xFFF, 4, 2), 2);
        sameWeeks("of equal ones", x, 0, 0, 1, 1);
        CHECKS.same("a great one and small ones", x.plan(0x090101L, 0xFFF, 3, 3), 9);
        sameWeeks("of small ones", x, 0, 0, 1);
        CHECKS.same("a last week of 0", x.plan(0x0305L, 0b1100, 2, 4), 5);
        sameWeeks("with a last week of 0", x, 0, 1);
        CHECKS.same("all with a last week of 0", x.plan(0x010203L, 0, 3, 4), 6);
        sameWeeks("with a last week of 0 each", x, 0, 0, 0);
        CHECKS.same("a test that must leave the first week", x.plan(0x0505L, 0b0011, 2, 2), 5);
        sameWeeks("that must leave the first week", x, 1, 0);
        CHECKS.same("a last week of 2", x.plan(0x01010101L, 0b10101010, 4, 4), 2);
        sameWeeks("of a last week of 2", x, 0, 0, 1, 1);
    }

    private static void promise19Edges() {
        HoseTests x = new HoseTests();
        CHECKS.same("no tests", x.plan(-1L, -1, 0, 4), 0);
        CHECKS.same("six great ones in one week", x.plan(-1L, -1, 6, 1), 6 * 255);
        sameWeeks("of one week", x, 0, 0, 0, 0, 0, 0);
        CHECKS.same("six great ones over four", x.plan(-1L, -1, 6, 4), 510);
        sameWeeks("of four weeks", x, 0, 0, 1, 1, 2, 2);
        CHECKS.same("no loads", x.plan(0L, -1, 6, 4), 0);
        sameWeeks("of no loads", x, 0, 0, 0, 0, 0, 0);
        CHECKS.same("the sixth test's own byte and bits", x.plan(0xFFFF_80_00_00_00_00_80L, 0xFFFF_F400, 6, 4), 128);
        sameWeeks("of the sixth test", x, 0, 0, 0, 0, 0, 1);
        CHECKS.same("bits behind n do not count", x.plan(0xFF03L, 0, 1, 4), 3);
        CHECKS.same("a last week behind the weeks", x.plan(0x0101L, 0xF, 2, 2), 1);
        sameWeeks("with a last week behind the weeks", x, 0, 1);
    }

    private static void promise20Week() {
        HoseTests x = Stock.make();
        sameWeeks("of the stock's plan", x, 0, 0, 1);
        x.plan(0x0101L, 0xF, 2, 2);
        sameWeeks("of the latest plan", x, 0, 1);
        x.plan(0L, 0, 0, 1);
        sameWeeks("of a plan of none", x);
    }

    private static void sameWeeks(String what, HoseTests x, int... due) {
        for (int test = 0; test < due.length; test++) {
            CHECKS.same("week " + test + " " + what, x.week(test), due[test]);
        }
        CHECKS.same("one week more " + what, Checks.thrownBy(() -> x.week(due.length)), "IllegalArgumentException");
    }
}
