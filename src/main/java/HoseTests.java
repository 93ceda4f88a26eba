/** Keeps tested things; ../shared/DOC.md tells, as numbered promises, what each call does. */
public final class HoseTests {
    private static final int LAST_DAY = 99_999;
    private static final int KINDS = 5;
    private static final int TESTS = 3;
    private static final int BATCHES = 10;
    private static final int PLACES = 20;
    private static final int THINGS = 40;
    private static final int MOST_AGE = 20_000;
    private static final int MOST_TEST_DAYS = 5_000;
    private static final int MOST_TEST_USES = 1_000;
    private static final int MOST_VALUE = 10_000;
    private static final int MOST_SERIAL = 999_999;
    private static final int MOST_SOON_DAYS = 30_000;
    private static final int MOST_PLANNED = 6;
    private static final int MOST_WEEKS = 4;

    private static final int FIT = 0;
    private static final int MENDED = 1;
    private static final int SCRAPPED = 2;

    private static final int NONE = -1;
    private static final int GREATEST_INT = 0x7FFF_FFFF;
    private static final int NEVER = GREATEST_INT;

    private static final int LETTERS = 23;
    private static final int[] DIGIT_WEIGHTS = {1, 3, 7, 1, 3, 7};

    private final Kinds kinds;
    private final Things things;
    private final Plan latestPlan;
    private final boolean[] recalledBatches;
    private final int[] endRow;
    private int today;

    public HoseTests() {
        kinds = new Kinds();
        things = new Things();
        latestPlan = new Plan();
        recalledBatches = new boolean[BATCHES];
        endRow = new int[THINGS];
        today = 0;
    }

    public void day(int d) throws IndexOutOfBoundsException {
        needRange(d, today, LAST_DAY);
        today = d;
    }

    public void age(int kind, int days) throws IllegalArgumentException, IndexOutOfBoundsException {
        needKnown(kind, KINDS);
        needRange(days, 0, MOST_AGE);
        kinds.ages[kind] = days;
    }

    public void test(int kind, int test, int days, int uses)
            throws IllegalArgumentException, IndexOutOfBoundsException {
        needKnown(kind, KINDS);
        needKnown(test, TESTS);
        needRange(days, 0, MOST_TEST_DAYS);
        needRange(uses, 0, MOST_TEST_USES);
        int at = kind * TESTS + test;
        kinds.testDays[at] = days;
        kinds.testUses[at] = uses;
    }

    public void bounds(int kind, int test, int low, int pass)
            throws IllegalArgumentException, IndexOutOfBoundsException {
        needKnown(kind, KINDS);
        needKnown(test, TESTS);
        needRange(pass, 0, MOST_VALUE);
        needRange(low, 0, pass);
        int at = kind * TESTS + test;
        kinds.lows[at] = low;
        kinds.passes[at] = pass;
    }

    public int thing(int kind, int serial, int letter, int batch, int place, int made)
            throws IllegalArgumentException, IndexOutOfBoundsException,
            IllegalStateException, UnsupportedOperationException {
        needKnown(kind, KINDS);
        needKnown(batch, BATCHES);
        needKnown(place, PLACES);
        needRange(serial, 0, MOST_SERIAL);
        needRange(made, 0, today);
        needState(letter == checkLetter(serial));
        needState(!things.hasSerial(serial));
        if (things.count >= THINGS) {
            throw new UnsupportedOperationException("no room for one more thing");
        }
        return things.add(kind, serial, batch, place, made);
    }

    public int letter(int serial) throws IndexOutOfBoundsException {
        needRange(serial, 0, MOST_SERIAL);
        return checkLetter(serial);
    }

    public void use(int thing) throws IllegalArgumentException, IllegalStateException {
        needKnown(thing, things.count);
        needState(reasonBarred(thing) == 0);
        things.countUse(thing, today);
    }

    public int wash(int thing, boolean dry) throws IllegalArgumentException, IllegalStateException {
        needKnown(thing, things.count);
        needState(!things.isScrapped(thing));
        needState(things.wet[thing] == dry);
        things.wet[thing] = !dry;
        if (!dry) {
            things.washes[thing]++;
        }
        return things.washes[thing];
    }

    public int result(int thing, int test, int value)
            throws IllegalArgumentException, IndexOutOfBoundsException, IllegalStateException {
        needKnown(thing, things.count);
        needKnown(test, TESTS);
        needRange(value, 0, MOST_VALUE);
        needState(!things.isScrapped(thing));
        int grade = kinds.gradeOf(things.kindOf[thing], test, value);
        return things.enterGrade(thing, test, grade, today);
    }

    public void load(int thing, int place) throws IllegalArgumentException, IllegalStateException {
        needKnown(thing, things.count);
        needKnown(place, PLACES);
        needState(reasonBarred(thing) == 0);
        things.places[thing] = place;
    }

    public int recall(int batch, boolean on) throws IllegalArgumentException, IllegalStateException {
        needKnown(batch, BATCHES);
        needState(recalledBatches[batch] != on);
        recalledBatches[batch] = on;
        return things.countLeftOf(batch);
    }

    public int recalled(int batch, int i) throws IllegalArgumentException, IndexOutOfBoundsException {
        needKnown(batch, BATCHES);
        needRange(i, 0, GREATEST_INT);
        int found = things.findLeftOf(batch, i);
        return found == NONE ? NONE : 100 * found + things.places[found];
    }

    public int barred(int thing) throws IllegalArgumentException {
        needKnown(thing, things.count);
        return reasonBarred(thing);
    }

    public int ends(int thing) throws IllegalArgumentException {
        needKnown(thing, things.count);
        return endOf(thing);
    }

    public int soon(int place, int days, int i) throws IllegalArgumentException, IndexOutOfBoundsException {
        needKnown(place, PLACES);
        needRange(days, 0, MOST_SOON_DAYS);
        needRange(i, 0, GREATEST_INT);
        fillEndRow(place, today + days);
        for (int thing = 0; thing < things.count; thing++) {
            if (endRow[thing] != NONE && countEndingBefore(thing) == i) {
                return thing;
            }
        }
        return NONE;
    }

    public int thingAt(int thing, int what) throws IllegalArgumentException {
        needKnown(thing, things.count);
        switch (what) {
            case 0:
                return things.conditionOf(thing);
            case 1:
                return things.places[thing];
            case 2:
                return things.washes[thing];
            case 3:
                return things.wet[thing] ? 1 : 0;
            case 4:
            case 5:
            case 6:
                return things.usesSince[thing * TESTS + what - 4];
            case 7:
            case 8:
            case 9:
                return things.latestDays[thing * TESTS + what - 7];
            case 10:
                return things.scrapDays[thing];
            default:
                throw new IllegalArgumentException("no such what");
        }
    }

    public int life(int kind, int what) throws IllegalArgumentException, ArithmeticException {
        needKnown(kind, KINDS);
        needKnown(what, 2);
        int scrapped = things.countScrapped(kind);
        if (scrapped == 0) {
            throw new ArithmeticException("no thing of this kind was scrapped");
        }
        int sum = things.sumOfLives(kind);
        int divisor = commonDivisor(sum, scrapped);
        return (what == 0 ? sum : scrapped) / divisor;
    }

    public int plan(long loads, int last, int n, int weeks) throws IndexOutOfBoundsException {
        needRange(n, 0, MOST_PLANNED);
        needRange(weeks, 1, MOST_WEEKS);
        return latestPlan.make(loads, last, n, weeks);
    }

    public int week(int test) throws IllegalArgumentException {
        needKnown(test, latestPlan.planned);
        return latestPlan.bestWeeks[test];
    }

    private static void needKnown(int number, int count) {
        if (number < 0 || number >= count) {
            throw new IllegalArgumentException("an unknown number");
        }
    }

    private static void needRange(int number, int least, int most) {
        if (number < least || number > most) {
            throw new IndexOutOfBoundsException("a number outside its range");
        }
    }

    private static void needState(boolean allowed) {
        if (!allowed) {
            throw new IllegalStateException("not in this state");
        }
    }

    private static int checkLetter(int serial) {
        int rest = serial;
        int sum = 0;
        for (int i = 0; i < DIGIT_WEIGHTS.length; i++) {
            sum += rest % 10 * DIGIT_WEIGHTS[i];
            rest /= 10;
        }
        return 'A' + sum % LETTERS;
    }

    /** The greatest number that divides both; a sum of 0 is divided by every number. */
    private static int commonDivisor(int sum, int count) {
        for (int divisor = count; divisor > 1; divisor--) {
            if (count % divisor == 0 && sum % divisor == 0) {
                return divisor;
            }
        }
        return 1;
    }

    private int reasonBarred(int thing) {
        if (things.isScrapped(thing)) {
            return 1;
        }
        if (recalledBatches[things.batches[thing]]) {
            return 2;
        }
        if (oldFrom(thing) <= today) {
            return 3;
        }
        if (someTestDueFrom(thing) <= today) {
            return 4;
        }
        if (things.conditionOf(thing) == MENDED) {
            return 5;
        }
        return things.wet[thing] ? 6 : 0;
    }

    private int oldFrom(int thing) {
        int age = kinds.ages[things.kindOf[thing]];
        return age == 0 ? NEVER : things.madeDays[thing] + age;
    }

    private int someTestDueFrom(int thing) {
        int first = NEVER;
        for (int test = 0; test < TESTS; test++) {
            first = Math.min(first, dueFrom(thing, test));
        }
        return first;
    }

    private int dueFrom(int thing, int test) {
        int ofKind = things.kindOf[thing] * TESTS + test;
        int ofThing = thing * TESTS + test;
        int uses = kinds.testUses[ofKind];
        if (uses > 0 && things.usesSince[ofThing] >= uses) {
            return today;
        }
        int days = kinds.testDays[ofKind];
        return days == 0 ? NEVER : things.latestDays[ofThing] + days;
    }

    private int endOf(int thing) {
        if (things.isScrapped(thing)) {
            return NONE;
        }
        int first = Math.min(oldFrom(thing), someTestDueFrom(thing));
        return first == NEVER ? NONE : Math.max(first, today);
    }

    /** Leaves NONE for a thing that is elsewhere or does not end up to the last day. */
    private void fillEndRow(int place, int lastDay) {
        for (int thing = 0; thing < things.count; thing++) {
            int end = things.places[thing] == place ? endOf(thing) : NONE;
            endRow[thing] = end <= lastDay ? end : NONE;
        }
    }

    private int countEndingBefore(int thing) {
        int before = 0;
        for (int other = 0; other < things.count; other++) {
            boolean sooner = endRow[other] < endRow[thing];
            boolean sameDayLower = endRow[other] == endRow[thing] && other < thing;
            if (endRow[other] != NONE && (sooner || sameDayLower)) {
                before++;
            }
        }
        return before;
    }

    /** What is set for the kinds; the rows of tests hold test t of kind k at k * TESTS + t. */
    private static final class Kinds {
        final int[] ages = new int[KINDS];
        final int[] testDays = new int[KINDS * TESTS];
        final int[] testUses = new int[KINDS * TESTS];
        final int[] lows = new int[KINDS * TESTS];
        final int[] passes = new int[KINDS * TESTS];

        int gradeOf(int kind, int test, int value) {
            int at = kind * TESTS + test;
            if (value >= passes[at]) {
                return FIT;
            }
            return value >= lows[at] ? MENDED : SCRAPPED;
        }
    }

    /** The things by their numbers; the rows of tests hold test t of thing x at x * TESTS + t. */
    private static final class Things {
        final int[] kindOf = new int[THINGS];
        final int[] serials = new int[THINGS];
        final int[] batches = new int[THINGS];
        final int[] places = new int[THINGS];
        final int[] madeDays = new int[THINGS];
        final int[] scrapDays = new int[THINGS];
        final int[] washes = new int[THINGS];
        final boolean[] wet = new boolean[THINGS];
        final int[] latestDays = new int[THINGS * TESTS];
        final int[] usesSince = new int[THINGS * TESTS];
        final int[] grades = new int[THINGS * TESTS];
        int count = 0;

        boolean hasSerial(int serial) {
            for (int thing = 0; thing < count; thing++) {
                if (serials[thing] == serial) {
                    return true;
                }
            }
            return false;
        }

        int add(int kind, int serial, int batch, int place, int made) {
            int thing = count;
            kindOf[thing] = kind;
            serials[thing] = serial;
            batches[thing] = batch;
            places[thing] = place;
            madeDays[thing] = made;
            scrapDays[thing] = NONE;
            for (int test = 0; test < TESTS; test++) {
                latestDays[thing * TESTS + test] = made;
            }
            count++;
            return thing;
        }

        boolean isScrapped(int thing) {
            return scrapDays[thing] != NONE;
        }

        int conditionOf(int thing) {
            int strictest = FIT;
            for (int test = 0; test < TESTS; test++) {
                strictest = Math.max(strictest, grades[thing * TESTS + test]);
            }
            return strictest;
        }

        void countUse(int thing, int today) {
            for (int test = 0; test < TESTS; test++) {
                int at = thing * TESTS + test;
                if (latestDays[at] != today) {
                    usesSince[at]++;
                }
            }
        }

        int enterGrade(int thing, int test, int grade, int today) {
            int at = thing * TESTS + test;
            // FIT is the mildest grade: a thing made today, without a result yet, needs no case of its own.
            grades[at] = latestDays[at] == today ? Math.max(grades[at], grade) : grade;
            latestDays[at] = today;
            usesSince[at] = 0;
            if (grade == SCRAPPED) {
                scrapDays[thing] = today;
            }
            return grades[at];
        }

        int countLeftOf(int batch) {
            int left = 0;
            for (int thing = 0; thing < count; thing++) {
                if (isLeftOf(batch, thing)) {
                    left++;
                }
            }
            return left;
        }

        int findLeftOf(int batch, int i) {
            int passed = 0;
            for (int thing = 0; thing < count; thing++) {
                if (isLeftOf(batch, thing)) {
                    if (passed == i) {
                        return thing;
                    }
                    passed++;
                }
            }
            return NONE;
        }

        private boolean isLeftOf(int batch, int thing) {
            return batches[thing] == batch && !isScrapped(thing);
        }

        int countScrapped(int kind) {
            int scrapped = 0;
            for (int thing = 0; thing < count; thing++) {
                if (kindOf[thing] == kind && isScrapped(thing)) {
                    scrapped++;
                }
            }
            return scrapped;
        }

        int sumOfLives(int kind) {
            int sum = 0;
            for (int thing = 0; thing < count; thing++) {
                if (kindOf[thing] == kind && isScrapped(thing)) {
                    sum += scrapDays[thing] - madeDays[thing];
                }
            }
            return sum;
        }
    }

    /** The latest plan, and the rows in which the next one is sought. */
    private static final class Plan {
        final int[] testLoads = new int[MOST_PLANNED];
        final int[] lastWeeks = new int[MOST_PLANNED];
        final int[] triedWeeks = new int[MOST_PLANNED];
        final int[] bestWeeks = new int[MOST_PLANNED];
        final int[] weekSums = new int[MOST_WEEKS];
        int planned = 0;
        int least = 0;

        int make(long loads, int last, int n, int weeks) {
            for (int test = 0; test < n; test++) {
                testLoads[test] = (int) (loads >>> (8 * test)) & 255;
                lastWeeks[test] = Math.min(last >>> (2 * test) & 3, weeks - 1);
            }
            planned = n;
            least = NEVER;
            putFrom(0, 0);
            return least;
        }

        /**
         * Weeks are tried from the lowest on and only a lesser greatest load replaces a plan,
         * so that of equal plans the first one by tests stays.
         */
        private void putFrom(int test, int greatest) {
            if (greatest >= least) {
                return;
            }
            if (test >= planned) {
                keepTried(greatest);
                return;
            }
            for (int week = 0; week <= lastWeeks[test]; week++) {
                triedWeeks[test] = week;
                weekSums[week] += testLoads[test];
                putFrom(test + 1, Math.max(greatest, weekSums[week]));
                weekSums[week] -= testLoads[test];
            }
        }

        private void keepTried(int greatest) {
            least = greatest;
            for (int test = 0; test < planned; test++) {
                bestWeeks[test] = triedWeeks[test];
            }
        }
    }
}
