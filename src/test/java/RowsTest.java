import com.sun.management.ThreadMXBean;
import java.lang.management.ManagementFactory;
import java.lang.reflect.Field;
import java.lang.reflect.Modifier;
import java.util.ArrayList;
import java.util.List;

/** 'All memory is rows made once.': calls make none, and the object keeps those that its constructor made. */
public final class RowsTest {
    private static final Checks CHECKS = new Checks("RowsTest");
    private static final ThreadMXBean THREADS = (ThreadMXBean) ManagementFactory.getThreadMXBean();
    /** The machine itself may make something while a call is new to it. */
    private static final int ROUNDS = 20;
    private static final int THINGS = 40;

    private static int[] madeRow = {};

    private RowsTest() {
    }

    public static void main(String[] args) throws IllegalAccessException {
        CHECKS.sentence("All memory is rows made once: the same rows behind every call");
        sameRows();
        CHECKS.sentence("All memory is rows made once: calls make no object");
        CHECKS.same("a row of 1,000 is seen", leastMade(true) >= 4_000, true);
        CHECKS.same("bytes that calls make", leastMade(false), 0L);
        CHECKS.sentence("All memory is rows made once: and none outside an object");
        noOtherMemory();
        CHECKS.end();
    }

    private static void sameRows() throws IllegalAccessException {
        HoseTests x = new HoseTests();
        List<Object> before = new ArrayList<>();
        List<Object> after = new ArrayList<>();
        collectRows(x, before);
        callAll(x);
        collectRows(x, after);
        CHECKS.same("there are rows", before.size() > 0, true);
        CHECKS.same("the number of rows", after.size(), before.size());
        for (int i = 0; i < Math.min(before.size(), after.size()); i++) {
            CHECKS.same("row " + i + " is the same", after.get(i) == before.get(i), true);
        }
    }

    /** The rows of an object, and those of the objects of the class's own classes that it keeps. */
    private static void collectRows(Object of, List<Object> rows) throws IllegalAccessException {
        for (Field field : of.getClass().getDeclaredFields()) {
            if (Modifier.isStatic(field.getModifiers()) || field.getType().isPrimitive()) {
                continue;
            }
            field.setAccessible(true);
            Object kept = field.get(of);
            rows.add(kept);
            if (kept != null && kept.getClass().getNestHost() == HoseTests.class) {
                collectRows(kept, rows);
            }
        }
    }

    private static void noOtherMemory() {
        for (Field field : HoseTests.class.getDeclaredFields()) {
            if (Modifier.isStatic(field.getModifiers())) {
                CHECKS.same(field.getName() + " is final", Modifier.isFinal(field.getModifiers()), true);
            }
        }
        for (Class<?> own : HoseTests.class.getDeclaredClasses()) {
            for (Field field : own.getDeclaredFields()) {
                CHECKS.same(field.getName() + " is of an object, or final",
                    !Modifier.isStatic(field.getModifiers()) || Modifier.isFinal(field.getModifiers()), true);
            }
        }
    }

    private static long leastMade(boolean withRow) {
        long least = Long.MAX_VALUE;
        for (int round = 0; round < ROUNDS; round++) {
            HoseTests x = new HoseTests();
            long before = THREADS.getCurrentThreadAllocatedBytes();
            callAll(x);
            if (withRow) {
                madeRow = new int[1_000 + round];
            }
            least = Math.min(least, THREADS.getCurrentThreadAllocatedBytes() - before);
        }
        return least;
    }

    /** Every call of the face, some 340 in all, none of which is refused. */
    private static void callAll(HoseTests x) {
        for (int kind = 0; kind < 5; kind++) {
            x.age(kind, 20_000);
            for (int test = 0; test < 3; test++) {
                x.test(kind, test, 5_000, 100);
                x.bounds(kind, test, 40, 70);
            }
        }
        x.day(9);
        for (int thing = 0; thing < THINGS; thing++) {
            x.thing(thing % 5, thing, x.letter(thing), thing % 10, thing % 20, thing % 10);
        }
        x.day(10);
        for (int thing = 0; thing < THINGS; thing++) {
            x.use(thing);
            x.load(thing, thing % 3);
            x.wash(thing, false);
            x.result(thing, thing % 3, 30 + thing);
        }
        for (int i = 0; i < 10; i++) {
            x.recall(i, true);
            x.recalled(i, i);
            x.soon(i, 30_000, i);
            x.barred(i + 10);
            x.ends(i + 10);
            x.thingAt(i, i);
        }
        x.wash(39, true);
        x.life(0, 0);
        x.plan(0x1122_3344_5566L, -1, 6, 4);
        x.week(5);
    }
}
