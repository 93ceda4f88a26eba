import java.lang.reflect.Method;
import java.lang.reflect.Modifier;
import java.util.Arrays;
import java.util.TreeSet;

/** The public face is the document's, with its throws clauses, and nothing beside it. */
public final class FaceTest {
    private static final String A = " IllegalArgumentException";
    private static final String I = " IndexOutOfBoundsException";
    private static final String S = " IllegalStateException";
    private static final String U = " UnsupportedOperationException";

    private static final String[] DUE = {
        "void day(int)" + I,
        "void age(int,int)" + A + I,
        "void test(int,int,int,int)" + A + I,
        "void bounds(int,int,int,int)" + A + I,
        "int thing(int,int,int,int,int,int)" + A + I + S + U,
        "int letter(int)" + I,
        "void use(int)" + A + S,
        "int wash(int,boolean)" + A + S,
        "int result(int,int,int)" + A + I + S,
        "void load(int,int)" + A + S,
        "int recall(int,boolean)" + A + S,
        "int recalled(int,int)" + A + I,
        "int barred(int)" + A,
        "int ends(int)" + A,
        "int soon(int,int,int)" + A + I,
        "int thingAt(int,int)" + A,
        "int life(int,int)" + A + " ArithmeticException",
        "int plan(long,int,int,int)" + I,
        "int week(int)" + A,
    };

    private FaceTest() {
    }

    public static void main(String[] args) {
        Checks checks = new Checks("FaceTest");
        TreeSet<String> found = new TreeSet<>();
        for (Method method : HoseTests.class.getDeclaredMethods()) {
            if (!Modifier.isPrivate(method.getModifiers())) {
                found.add(told(method));
            }
        }
        checks.same("the methods", found, new TreeSet<>(Arrays.asList(DUE)));
        checks.same("the class is public and final",
            HoseTests.class.getModifiers() & (Modifier.PUBLIC | Modifier.FINAL), Modifier.PUBLIC | Modifier.FINAL);
        checks.same("the public constructors", HoseTests.class.getConstructors().length, 1);
        checks.same("the constructors", HoseTests.class.getDeclaredConstructors().length, 1);
        checks.same("the fields that are not private", Arrays.stream(HoseTests.class.getDeclaredFields())
            .filter(field -> !Modifier.isPrivate(field.getModifiers())).count(), 0L);
        ownClasses(checks);
        checks.end();
    }

    private static void ownClasses(Checks checks) {
        for (Class<?> own : HoseTests.class.getDeclaredClasses()) {
            int modifiers = own.getModifiers();
            checks.same(own.getSimpleName() + " is static", Modifier.isStatic(modifiers), true);
            checks.same(own.getSimpleName() + " is outside the face",
                modifiers & (Modifier.PUBLIC | Modifier.PROTECTED), 0);
        }
    }

    private static String told(Method method) {
        StringBuilder told = new StringBuilder();
        told.append(method.getReturnType().getSimpleName()).append(' ').append(method.getName()).append('(');
        String between = "";
        for (Class<?> type : method.getParameterTypes()) {
            told.append(between).append(type.getSimpleName());
            between = ",";
        }
        told.append(')');
        for (Class<?> type : method.getExceptionTypes()) {
            told.append(' ').append(type.getSimpleName());
        }
        return told.toString();
    }
}
