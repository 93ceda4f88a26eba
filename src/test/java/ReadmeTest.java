import java.io.IOException;
import java.lang.reflect.InvocationTargetException;
import java.lang.reflect.Method;
import java.nio.file.Files;
import java.nio.file.Path;
import java.util.ArrayList;
import java.util.Arrays;
import java.util.HashMap;
import java.util.List;
import java.util.Map;
import java.util.TreeSet;
import java.util.regex.Matcher;
import java.util.regex.Pattern;
import java.util.stream.Stream;

/** README.md's example and its tables, against the class and the tests as they stand. */
public final class ReadmeTest {
    private static final Checks CHECKS = new Checks("ReadmeTest");
    private static final Pattern CALL =
        Pattern.compile("(?:int (\\w+) = )?x\\.(\\w+)\\((.*?)\\);\\s*(?://\\s*(.*))?");
    private static final Pattern ANSWER = Pattern.compile("(-?\\d+): .*");
    private static final Pattern REFUSAL = Pattern.compile("throws (\\w+): .*");

    private final List<String> lines;
    private final Map<String, Integer> answers = new HashMap<>();
    private final HoseTests x = new HoseTests();

    private ReadmeTest(List<String> lines) {
        this.lines = lines;
    }

    public static void main(String[] args) throws IOException, IllegalAccessException {
        ReadmeTest test = new ReadmeTest(Files.readAllLines(Path.of("README.md")));
        test.example();
        test.calls();
        test.tests();
        CHECKS.end();
    }

    private static Method method(String name) {
        for (Method method : HoseTests.class.getMethods()) {
            if (method.getName().equals(name) && method.getDeclaringClass() == HoseTests.class) {
                return method;
            }
        }
        throw new AssertionError("README.md calls " + name);
    }

    private static TreeSet<String> namesOfTheFace() {
        TreeSet<String> names = new TreeSet<>();
        for (Method method : HoseTests.class.getMethods()) {
            if (method.getDeclaringClass() == HoseTests.class) {
                names.add(method.getName());
            }
        }
        return names;
    }

    private void example() throws IllegalAccessException {
        CHECKS.sentence("how to use the class: the example");
        int from = lines.indexOf("```java") + 1;
        int to = from + lines.subList(from, lines.size()).indexOf("```");
        CHECKS.same("its first line", lines.get(from).startsWith("HoseTests x = new HoseTests();"), true);
        TreeSet<String> called = new TreeSet<>();
        for (String line : lines.subList(from + 1, to)) {
            Matcher call = CALL.matcher(line);
            CHECKS.same("a call: " + line, call.matches(), true);
            if (call.matches()) {
                called.add(call.group(2));
                callOnce(line, call);
            }
        }
        CHECKS.same("the calls of the example", called, namesOfTheFace());
    }

    private void callOnce(String line, Matcher call) throws IllegalAccessException {
        Method method = method(call.group(2));
        String comment = call.group(4) == null ? "" : call.group(4);
        Object got = answerOf(method, call.group(3).split(", "));
        Matcher refusal = REFUSAL.matcher(comment);
        Matcher answer = ANSWER.matcher(comment);
        String due = refusal.matches() ? refusal.group(1) : answer.matches() ? answer.group(1) : "null";
        CHECKS.same(line, String.valueOf(got), due);
        if (call.group(1) != null && got instanceof Integer number) {
            answers.put(call.group(1), number);
        }
    }

    private Object answerOf(Method method, String[] told) throws IllegalAccessException {
        Class<?>[] types = method.getParameterTypes();
        CHECKS.same("the parameters of " + method.getName(), told.length, types.length);
        Object[] given = new Object[types.length];
        for (int i = 0; i < types.length; i++) {
            given[i] = valueOf(types[i], told[i].replace("_", ""));
        }
        try {
            return method.invoke(x, given);
        } catch (InvocationTargetException e) {
            return e.getCause().getClass().getSimpleName();
        }
    }

    private Object valueOf(Class<?> type, String told) {
        if (type == boolean.class) {
            return told.equals("true");
        }
        if (type == long.class) {
            return Long.decode(told.substring(0, told.length() - 1));
        }
        return answers.containsKey(told) ? answers.get(told) : Integer.decode(told);
    }

    /** The cells of the table's rows, behind its head. */
    private List<String[]> table(String head) {
        List<String[]> rows = new ArrayList<>();
        int at = lines.indexOf(head);
        CHECKS.same("the table " + head, at >= 0, true);
        for (int i = at + 2; at >= 0 && lines.get(i).startsWith("|"); i++) {
            rows.add(lines.get(i).substring(2, lines.get(i).length() - 2).split(" \\| "));
        }
        return rows;
    }

    private void calls() {
        CHECKS.sentence("how to use the class: its calls, and what a refused one throws");
        List<String> order = new ArrayList<>();
        Map<String, String> thrown = new HashMap<>();
        for (String[] row : table("| when | what is thrown |")) {
            order.add(row[1].replace("`", ""));
            thrown.put(row[0], row[1].replace("`", ""));
        }
        CHECKS.same("the order of refusals", order, List.of("IllegalArgumentException", "IndexOutOfBoundsException",
            "IllegalStateException", "UnsupportedOperationException", "ArithmeticException"));
        TreeSet<String> told = new TreeSet<>();
        for (String[] row : table("| call | what it does, and what it answers | when it is refused |")) {
            String[] call = row[0].substring(1, row[0].length() - 2).split("\\(");
            told.add(call[0]);
            Method method = method(call[0]);
            CHECKS.same("the parameters of " + call[0], call[1].split(", ").length, method.getParameterCount());
            List<String> refusals = Stream.of(row[2].split("; ")).map(when -> thrown.get(when.split(": ")[0])).toList();
            CHECKS.same("the refusals of " + call[0], refusals,
                Stream.of(method.getExceptionTypes()).map(Class::getSimpleName).toList());
        }
        CHECKS.same("the calls that are told", told, namesOfTheFace());
    }

    private void tests() throws IOException {
        CHECKS.sentence("how to run its tests: their names");
        TreeSet<String> told = new TreeSet<>();
        for (String[] row : table("| test | what it looks at |")) {
            told.addAll(Arrays.asList(row[0].replace("`", "").split(", ")));
        }
        TreeSet<String> there = new TreeSet<>();
        try (Stream<Path> files = Files.list(Path.of("src/test/java"))) {
            files.map(file -> file.getFileName().toString()).filter(name -> name.endsWith("Test.java"))
                .forEach(name -> there.add(name.replace(".java", "")));
        }
        CHECKS.same("the tests that are told", told, there);
    }
}
