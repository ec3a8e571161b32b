import java.io.IOException;
import java.lang.reflect.Method;
import java.lang.reflect.Modifier;
import java.nio.file.Files;
import java.nio.file.Path;
import java.util.List;
import java.util.regex.Matcher;
import java.util.regex.Pattern;

/** What README.md tells about the use of the class holds. */
public final class ReadmeTest extends Calls {
    private static final Pattern REQUIREMENT = Pattern.compile("A requirement is [^;]*;", Pattern.DOTALL);
    private static final Pattern PUBLICATION = Pattern.compile("A publication is [^`]*`([^`]*)`", Pattern.DOTALL);
    private static final Pattern QUOTED = Pattern.compile("`([^`]*)`");

    private static String readme;

    public static void main(String[] args) throws IOException {
        readme = Files.readString(Path.of("README.md"));
        testExample();
        testTexts();
        testCalls();
        end();
    }

    /** The code stands in README.md word for word, and answers what is told there behind it. */
    private static void testExample() {
        begin("the example");
        line("VersionSolver solver = new VersionSolver();");
        line("solver.feed(0x302e302e31L, 5);        // the text \"1.0.0\"");
        due("feed", 5, () -> x.feed(0x302e302e31L, 5));
        line("int version = solver.publish(3);      // version 0, of package 3");
        due("publish", 0, () -> x.publish(3));
        line("solver.feed(0x315eL, 2);              // the text \"^1\"");
        due("feed", 2, () -> x.feed(0x315eL, 2));
        line("solver.want(3);                       // the root requires ^1 of package 3");
        due("want", DONE, () -> {
            x.want(3);
            return DONE;
        });
        line("int packages = solver.solve();        // 1 package has a version");
        due("solve", 1, () -> x.solve());
        line("int chosen = solver.chosen(3);        // version 0");
        due("chosen", 0, () -> x.chosen(3));
        line("int bytes = solver.write();           // 8 bytes: the file \"3 1.0.0\\n\"");
        due("write", 8, () -> x.write());
        line("int first = solver.fileByte(0);       // 51, the digit 3");
        due("fileByte", 51, () -> x.fileByte(0));
        fileIs("3 1.0.0\n");
        best(3, "1.0.0", 0);
    }

    private static void line(String code) {
        due("README.md has the line " + code, true, () -> readme.contains("\n" + code + "\n"));
    }

    private static void testTexts() {
        begin("the texts");
        Matcher publication = PUBLICATION.matcher(readme);
        due("README.md shows a publication", true, publication::find);
        publish(0, publication.group(1), 0);
        Matcher requirements = REQUIREMENT.matcher(readme);
        due("README.md shows requirements", true, requirements::find);
        Matcher text = QUOTED.matcher(requirements.group());
        int shown = 0;
        while (text.find()) {
            want(0, text.group(1), DONE);
            shown++;
        }
        int many = shown;
        due("README.md shows some", true, () -> many > 1);
    }

    /** Each call has a row that names its exceptions in their order. */
    private static void testCalls() {
        begin("the rows of the calls");
        List<String> lines = readme.lines().toList();
        for (Method method : VersionSolver.class.getDeclaredMethods()) {
            if (Modifier.isPublic(method.getModifiers())) {
                due("the row of " + method.getName(), exceptions(method), () -> exceptionsTold(lines, method));
            }
        }
    }

    private static String exceptions(Method method) {
        StringBuilder names = new StringBuilder();
        for (Class<?> thrown : method.getExceptionTypes()) {
            names.append(thrown.getSimpleName().replace("Exception", "")).append(' ');
        }
        return names.toString();
    }

    private static String exceptionsTold(List<String> lines, Method method) {
        for (String line : lines) {
            String[] cells = line.split("\\|", -1);
            if (cells.length == 5 && cells[1].startsWith(" `" + method.getName() + "(")) {
                return names(cells[3]);
            }
        }
        return "none";
    }

    private static String names(String cell) {
        StringBuilder names = new StringBuilder();
        for (String told : cell.split(";")) {
            int end = told.indexOf(':');
            if (end > 0) {
                names.append(told.substring(0, end).trim()).append(' ');
            }
        }
        return names.toString();
    }
}
