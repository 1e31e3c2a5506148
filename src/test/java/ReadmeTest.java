import java.io.IOException;
import java.lang.reflect.InvocationTargetException;
import java.lang.reflect.Method;
import java.net.URL;
import java.net.URLClassLoader;
import java.nio.file.Files;
import java.nio.file.Path;
import java.nio.file.Paths;
import java.util.List;
import java.util.regex.Matcher;
import java.util.regex.Pattern;
import javax.tools.ToolProvider;

/**
 * The README, whose path is the third argument: its examples answer what stands behind them, and it names each call and
 * constant of the face in the document, whose path is the second.
 */
public final class ReadmeTest {
    private static final Pattern ANSWERED = Pattern.compile("(town\\.\\w+\\(.*\\)); +// (-?\\d+): .+");
    private static final Pattern METHOD = Pattern.compile(" {4}public (?:int|float) (\\w+)\\((.*)\\);");
    private static final Pattern CONSTANT = Pattern.compile(" {4}public static final int (\\w+ = -\\d+);");
    private static final int LEAST_ANSWERS = 15;
    private static final int FACE_LINES = 29;

    private static int wrong = 0;
    private static int answers = 0;

    private ReadmeTest() {
    }

    /** Called by the program that is made of the examples. */
    public static void due(String call, double got, double due) {
        answers++;
        check(got == due, call + " answered " + got + ", the README says " + due);
    }

    private static void check(boolean holds, String what) {
        if (!holds) {
            wrong++;
            System.out.println(what);
        }
    }

    /** The lines between "```java" and "```" as a program, in which each answered call is a check. */
    private static String examples(List<String> lines) {
        StringBuilder program = new StringBuilder("public class Examples {\npublic static void main(String[] none) {\n");
        boolean inside = false;
        for (String line : lines) {
            if (line.startsWith("```")) {
                inside = line.equals("```java");
                continue;
            }
            if (!inside) {
                continue;
            }
            Matcher m = ANSWERED.matcher(line);
            if (m.matches()) {
                String quoted = m.group(1).replace("\"", "\\\"");
                line = "ReadmeTest.due(\"" + quoted + "\", " + m.group(1) + ", " + m.group(2) + ");";
            }
            program.append(line).append('\n');
        }
        return program.append("}\n}\n").toString();
    }

    private static void runExamples(List<String> lines) throws IOException, ReflectiveOperationException {
        Path folder = Files.createTempDirectory("readme");
        Path source = folder.resolve("Examples.java");
        Path made = folder.resolve("Examples.class");
        try {
            Files.writeString(source, examples(lines));
            int failed = ToolProvider.getSystemJavaCompiler().run(null, null, null, "-cp",
                    System.getProperty("java.class.path"), "-d", folder.toString(), source.toString());
            check(failed == 0, "the examples do not compile");
            if (failed == 0) {
                run(folder);
            }
        } finally {
            Files.deleteIfExists(made);
            Files.deleteIfExists(source);
            Files.deleteIfExists(folder);
        }
    }

    private static void run(Path folder) throws IOException, ReflectiveOperationException {
        try (URLClassLoader loader = new URLClassLoader(new URL[] {folder.toUri().toURL()})) {
            Method main = loader.loadClass("Examples").getMethod("main", String[].class);
            main.invoke(null, (Object) new String[0]);
        } catch (InvocationTargetException thrown) {
            check(false, "the examples threw " + thrown.getCause());
        }
        check(answers >= LEAST_ANSWERS, "only " + answers + " answers stand in the examples");
    }

    private static void names(List<String> document, String readme) {
        int found = 0;
        for (String line : document) {
            Matcher method = METHOD.matcher(line);
            Matcher constant = CONSTANT.matcher(line);
            if (method.matches()) {
                found++;
                String call = method.group(1) + "(" + method.group(2).replaceAll("\\w+ (\\w+)", "$1") + ")";
                check(readme.contains("| `" + call + "` |"), "the README does not name " + call);
            } else if (constant.matches()) {
                found++;
                check(readme.contains("`" + constant.group(1) + "`"), "the README does not name " + constant.group(1));
            }
        }
        check(found == FACE_LINES, found + " lines of the face were found in the document");
    }

    public static void main(String[] args) throws IOException, ReflectiveOperationException {
        List<String> lines = Files.readAllLines(Paths.get(args[2]));
        runExamples(lines);
        names(Files.readAllLines(Paths.get(args[1])), String.join("\n", lines));
        System.out.println(wrong == 0 ? answers + " answers of the README are as due, and it names each call"
                : wrong + " things do not hold of the README");
        if (wrong != 0) {
            System.exit(1);
        }
    }
}
