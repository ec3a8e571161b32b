import java.lang.reflect.Constructor;
import java.lang.reflect.Field;
import java.lang.reflect.Method;
import java.lang.reflect.Modifier;
import java.util.Arrays;
import java.util.HashSet;
import java.util.Set;
import java.util.TreeSet;

/** The class has the document's face, with the exceptions that it names, and nothing besides. */
public final class FaceTest {
    private static final String INDEX = "IndexOutOfBoundsException";
    private static final String ARGUMENT = "IllegalArgumentException";
    private static final String STATE = "IllegalStateException";
    private static final String UNSUPPORTED = "UnsupportedOperationException";

    private static int wrong = 0;

    public static void main(String[] args) {
        Set<String> due = new TreeSet<>(Arrays.asList(
            "int feed(long, int) " + names(ARGUMENT, STATE),
            "int publish(int) " + names(INDEX, ARGUMENT, STATE, UNSUPPORTED),
            "boolean yank(int, boolean) " + names(INDEX),
            "void want(int) " + names(INDEX, ARGUMENT),
            "boolean drop(int) " + names(INDEX),
            "int solve() " + names(STATE),
            "int chosen(int) " + names(INDEX),
            "int lock() " + names(),
            "int pin(int) " + names(INDEX),
            "int unlock() " + names(),
            "boolean meets(int) " + names(INDEX, ARGUMENT),
            "int best(int) " + names(INDEX, ARGUMENT),
            "int compare(int, int) " + names(INDEX),
            "int needs(int, int) " + names(INDEX),
            "int told(int) " + names(),
            "int write() " + names(),
            "int fileByte(int) " + names(INDEX)));
        Set<String> publicNames = new HashSet<>();
        Set<String> privateNames = new HashSet<>();
        Set<String> got = new TreeSet<>();
        collect(got, publicNames, privateNames);
        check("the public methods are " + due + ", not " + got, got.equals(due));
        privateNames.retainAll(publicNames);
        check("private methods bear public names: " + privateNames, privateNames.isEmpty());
        checkFields();
        Constructor<?>[] made = VersionSolver.class.getDeclaredConstructors();
        check("one public constructor without arguments",
                made.length == 1 && Modifier.isPublic(made[0].getModifiers()) && made[0].getParameterCount() == 0);
        check("a final class", Modifier.isFinal(VersionSolver.class.getModifiers()));
        System.out.println(wrong == 0 ? "the face is the document's" : wrong + " differences from the document's face");
        if (wrong != 0) {
            System.exit(1);
        }
    }

    private static String names(String... exceptions) {
        return Arrays.toString(exceptions);
    }

    private static void collect(Set<String> got, Set<String> publicNames, Set<String> privateNames) {
        for (Method method : VersionSolver.class.getDeclaredMethods()) {
            int kind = method.getModifiers();
            if (Modifier.isPrivate(kind)) {
                privateNames.add(method.getName());
            } else {
                publicNames.add(method.getName());
                check(method.getName() + " is public and not static", Modifier.isPublic(kind) && !Modifier.isStatic(kind));
                got.add(told(method));
            }
        }
    }

    private static String told(Method method) {
        StringBuilder text = new StringBuilder();
        text.append(method.getReturnType()).append(' ').append(method.getName()).append('(');
        Class<?>[] taken = method.getParameterTypes();
        for (int i = 0; i < taken.length; i++) {
            text.append(i > 0 ? ", " : "").append(taken[i]);
        }
        Class<?>[] thrown = method.getExceptionTypes();
        String[] exceptions = new String[thrown.length];
        for (int i = 0; i < thrown.length; i++) {
            exceptions[i] = thrown[i].getSimpleName();
        }
        return text.append(") ").append(names(exceptions)).toString();
    }

    private static void checkFields() {
        for (Field field : VersionSolver.class.getDeclaredFields()) {
            int kind = field.getModifiers();
            boolean none = field.getName().equals("NONE");
            check(field.getName() + " is private", none || Modifier.isPrivate(kind));
            check("NONE is a public constant", !none || Modifier.isPublic(kind) && Modifier.isFinal(kind));
            check("a static field is final", !Modifier.isStatic(kind) || Modifier.isFinal(kind));
        }
        check("NONE is -1", VersionSolver.NONE == -1);
    }

    private static void check(String what, boolean right) {
        if (!right) {
            wrong++;
            System.out.println("not so: " + what);
        }
    }
}
