import java.util.ArrayList;
import java.util.Comparator;
import java.util.HashSet;
import java.util.List;
import java.util.Set;

/** The document's terms over a thing's whole history, day by day and plan by plan, with no thought of speed. */
final class Model {
    private static final class Result {
        int test;
        int day;
        int grade;
    }

    private static final class Thing {
        int number;
        int kind;
        int serial;
        int batch;
        int place;
        int made;
        int washes;
        boolean wet;
        final List<Integer> useDays = new ArrayList<>();
        final List<Result> results = new ArrayList<>();

        int latest(int test) {
            int latest = made;
            for (Result result : results) {
                latest = result.test == test ? Math.max(latest, result.day) : latest;
            }
            return latest;
        }

        int usesSince(int test) {
            int latest = latest(test);
            return (int) useDays.stream().filter(day -> day > latest).count();
        }

        int counts(int test) {
            int latest = latest(test);
            return results.stream().filter(r -> r.test == test && r.day == latest)
                .mapToInt(r -> r.grade).max().orElse(0);
        }

        int scrapDay() {
            return results.stream().filter(r -> r.grade == 2).mapToInt(r -> r.day).findFirst().orElse(-1);
        }

        int condition() {
            return scrapDay() >= 0 ? 2 : counts(0) == 1 || counts(1) == 1 || counts(2) == 1 ? 1 : 0;
        }
    }

    private int today = 0;
    private final int[] ages = new int[5];
    private final int[][] days = new int[5][3];
    private final int[][] uses = new int[5][3];
    private final int[][] lows = new int[5][3];
    private final int[][] passes = new int[5][3];
    private final List<Thing> things = new ArrayList<>();
    private final Set<Integer> recalledBatches = new HashSet<>();
    private int[] weeksOfPlan = new int[0];

    private static void unknownUnless(boolean known) {
        if (!known) {
            throw new IllegalArgumentException();
        }
    }

    private static void rangeUnless(boolean inRange) {
        if (!inRange) {
            throw new IndexOutOfBoundsException();
        }
    }

    private static void stateUnless(boolean allowed) {
        if (!allowed) {
            throw new IllegalStateException();
        }
    }

    private static boolean within(int number, int least, int most) {
        return least <= number && number <= most;
    }

    private Thing known(int thing) {
        unknownUnless(within(thing, 0, things.size() - 1));
        return things.get(thing);
    }

    void day(int d) {
        rangeUnless(within(d, today, 99_999));
        today = d;
    }

    void age(int kind, int ageDays) {
        unknownUnless(within(kind, 0, 4));
        rangeUnless(within(ageDays, 0, 20_000));
        ages[kind] = ageDays;
    }

    void test(int kind, int test, int testDays, int testUses) {
        unknownUnless(within(kind, 0, 4) && within(test, 0, 2));
        rangeUnless(within(testDays, 0, 5_000) && within(testUses, 0, 1_000));
        days[kind][test] = testDays;
        uses[kind][test] = testUses;
    }

    void bounds(int kind, int test, int low, int pass) {
        unknownUnless(within(kind, 0, 4) && within(test, 0, 2));
        rangeUnless(within(low, 0, 10_000) && within(pass, 0, 10_000) && low <= pass);
        lows[kind][test] = low;
        passes[kind][test] = pass;
    }

    int thing(int kind, int serial, int letter, int batch, int place, int made) {
        unknownUnless(within(kind, 0, 4) && within(batch, 0, 9) && within(place, 0, 19));
        rangeUnless(within(serial, 0, 999_999) && within(made, 0, today));
        stateUnless(letter == letter(serial) && things.stream().noneMatch(t -> t.serial == serial));
        if (things.size() == 40) {
            throw new UnsupportedOperationException();
        }
        Thing thing = new Thing();
        thing.number = things.size();
        thing.kind = kind;
        thing.serial = serial;
        thing.batch = batch;
        thing.place = place;
        thing.made = made;
        things.add(thing);
        return thing.number;
    }

    int letter(int serial) {
        rangeUnless(within(serial, 0, 999_999));
        String digits = String.format("%06d", serial);
        int sum = 0;
        for (int i = 0; i < 6; i++) {
            sum += (digits.charAt(i) - '0') * ("731731".charAt(i) - '0');
        }
        return "ABCDEFGHIJKLMNOPQRSTUVW".charAt(sum % 23);
    }

    void use(int thing) {
        Thing of = known(thing);
        stateUnless(barred(thing) == 0);
        of.useDays.add(today);
    }

    int wash(int thing, boolean dry) {
        Thing of = known(thing);
        stateUnless(of.condition() != 2 && (dry ? of.wet : !of.wet));
        of.wet = !dry;
        of.washes += dry ? 0 : 1;
        return of.washes;
    }

    int result(int thing, int test, int value) {
        Thing of = known(thing);
        unknownUnless(within(test, 0, 2));
        rangeUnless(within(value, 0, 10_000));
        stateUnless(of.condition() != 2);
        Result result = new Result();
        result.test = test;
        result.day = today;
        result.grade = value >= passes[of.kind][test] ? 0 : value >= lows[of.kind][test] ? 1 : 2;
        of.results.add(result);
        return of.counts(test);
    }

    void load(int thing, int place) {
        Thing of = known(thing);
        unknownUnless(within(place, 0, 19));
        stateUnless(barred(thing) == 0);
        of.place = place;
    }

    private List<Thing> leftOf(int batch) {
        return things.stream().filter(t -> t.batch == batch && t.condition() != 2).toList();
    }

    int recall(int batch, boolean on) {
        unknownUnless(within(batch, 0, 9));
        stateUnless(on ? recalledBatches.add(batch) : recalledBatches.remove(batch));
        return leftOf(batch).size();
    }

    int recalled(int batch, int i) {
        unknownUnless(within(batch, 0, 9));
        rangeUnless(i >= 0);
        List<Thing> left = leftOf(batch);
        return i < left.size() ? 100 * left.get(i).number + left.get(i).place : -1;
    }

    private boolean oldOn(Thing thing, int day) {
        return ages[thing.kind] > 0 && day - thing.made >= ages[thing.kind];
    }

    private boolean dueOn(Thing thing, int day) {
        for (int test = 0; test < 3; test++) {
            int everyDays = days[thing.kind][test];
            int everyUses = uses[thing.kind][test];
            if (everyDays > 0 && day - thing.latest(test) >= everyDays
                || everyUses > 0 && thing.usesSince(test) >= everyUses) {
                return true;
            }
        }
        return false;
    }

    int barred(int thing) {
        Thing of = known(thing);
        boolean[] reasons = {of.condition() == 2, recalledBatches.contains(of.batch), oldOn(of, today),
            dueOn(of, today), of.condition() == 1, of.wet};
        for (int i = 0; i < reasons.length; i++) {
            if (reasons[i]) {
                return i + 1;
            }
        }
        return 0;
    }

    int ends(int thing) {
        Thing of = known(thing);
        if (of.condition() == 2) {
            return -1;
        }
        for (int day = today; day <= today + 20_000; day++) {
            if (oldOn(of, day) || dueOn(of, day)) {
                return day;
            }
        }
        return -1;
    }

    int soon(int place, int within, int i) {
        unknownUnless(within(place, 0, 19));
        rangeUnless(within(within, 0, 30_000) && i >= 0);
        List<int[]> ending = new ArrayList<>();
        for (Thing thing : things) {
            int end = thing.place == place ? ends(thing.number) : -1;
            if (end >= 0 && end - today <= within) {
                ending.add(new int[] {end, thing.number});
            }
        }
        ending.sort(Comparator.<int[]>comparingInt(e -> e[0]).thenComparingInt(e -> e[1]));
        return i < ending.size() ? ending.get(i)[1] : -1;
    }

    int thingAt(int thing, int what) {
        Thing of = known(thing);
        unknownUnless(within(what, 0, 10));
        int[] all = {of.condition(), of.place, of.washes, of.wet ? 1 : 0,
            of.usesSince(0), of.usesSince(1), of.usesSince(2),
            of.latest(0), of.latest(1), of.latest(2), of.scrapDay()};
        return all[what];
    }

    int life(int kind, int what) {
        unknownUnless(within(kind, 0, 4) && within(what, 0, 1));
        int sum = 0;
        int count = 0;
        for (Thing thing : things) {
            if (thing.kind == kind && thing.condition() == 2) {
                sum += thing.scrapDay() - thing.made;
                count++;
            }
        }
        if (count == 0) {
            throw new ArithmeticException();
        }
        int a = sum;
        int b = count;
        while (b != 0) {
            int rest = a % b;
            a = b;
            b = rest;
        }
        return (what == 0 ? sum : count) / a;
    }

    int plan(long loads, int last, int n, int weeks) {
        rangeUnless(within(n, 0, 6) && within(weeks, 1, 4));
        int least = Integer.MAX_VALUE;
        for (int code = 0; code < Math.pow(weeks, n); code++) {
            int[] tried = new int[n];
            int rest = code;
            for (int test = n - 1; test >= 0; test--) {
                tried[test] = rest % weeks;
                rest /= weeks;
            }
            int greatest = greatestOf(tried, loads, last);
            if (greatest < least) {
                least = greatest;
                weeksOfPlan = tried;
            }
        }
        return least;
    }

    private static int greatestOf(int[] tried, long loads, int last) {
        int[] sums = new int[4];
        int greatest = 0;
        for (int test = 0; test < tried.length; test++) {
            if (tried[test] > (last >> 2 * test & 3)) {
                return Integer.MAX_VALUE;
            }
            sums[tried[test]] += (int) (loads >> 8 * test & 255);
            greatest = Math.max(greatest, sums[tried[test]]);
        }
        return greatest;
    }

    int week(int test) {
        unknownUnless(within(test, 0, weeksOfPlan.length - 1));
        return weeksOfPlan[test];
    }
}
