import java.io.IOException;
import java.nio.file.Files;
import java.nio.file.Paths;
import java.util.List;
import java.util.Set;
import java.util.regex.Matcher;
import java.util.regex.Pattern;

/** What of ../shared/LANGUAGE.md can be seen from the lines of the program, whose path is the argument. */
public final class LanguageTest {
    private static final String[] BANNED = {"->", "::", "synchronized", "assert", "finally", "throw", "catch", "import",
        "System.out", "Exact(", "equals(", "hashCode", "toString", "static {", "instanceof", "lambda", "Random",
        "currentTimeMillis", "nanoTime", "Thread", " var ", "protected", "package ", "Math.abs(double"};
    private static final Pattern METHOD = Pattern.compile("^( {4}| {8})(?:(?:public|private|static|final) )*"
            + "(?:[\\w\\[\\]]+ )?(\\w+)\\(([^()]*)\\) \\{$");
    private static final Pattern FIELD = Pattern.compile("^( {4}| {8})private (?:final )?[\\w\\[\\]]+ \\w+;$");
    private static final Set<String> FACE = Set.of("lane", "takeLane", "close", "rank", "alley", "takeAlley",
            "tellAll", "clearText", "fault", "undo", "keep", "restore", "laneOf", "alleyOf", "crossingOf", "within",
            "total", "walk", "shortest", "stretch", "count", "ifClosed", "weakest", "bestGate", "type");

    private static int wrong = 0;

    private LanguageTest() {
    }

    private static void check(boolean holds, int line, String what) {
        if (!holds) {
            wrong++;
            System.out.println("line " + (line + 1) + ": " + what);
        }
    }

    private static String code(String line) {
        int comment = line.indexOf("//");
        String start = comment < 0 ? line : line.substring(0, comment);
        String trimmed = start.trim();
        return trimmed.startsWith("*") || trimmed.startsWith("/*") ? "" : start;
    }

    private static void words(List<String> lines) {
        for (int i = 0; i < lines.size(); i++) {
            for (String word : BANNED) {
                check(!code(lines.get(i)).contains(word), i, "uses " + word);
            }
            check(lines.get(i).chars().allMatch(c -> c < 128), i, "has a sign beyond 127");
        }
    }

    private static void methods(List<String> lines) {
        int methods = 0;
        for (int i = 0; i < lines.size(); i++) {
            Matcher m = METHOD.matcher(lines.get(i));
            if (!m.matches()) {
                continue;
            }
            methods++;
            int end = i;
            while (!lines.get(end).equals(m.group(1) + "}")) {
                end++;
            }
            check(end - i < 60, i, m.group(2) + " is too long");
            check(m.group(3).split(",").length <= 7, i, m.group(2) + " takes too many parameters");
            boolean open = lines.get(i).contains("public ");
            check(open || !FACE.contains(m.group(2)), i, m.group(2) + " bears a name of the face");
        }
        check(methods > 100, 0, "only " + methods + " methods were found");
    }

    /** All calls of a run share one room, so that calls use the rows that the constructors have made. */
    private static void made(List<String> lines) {
        String method = "";
        int found = 0;
        for (int i = 0; i < lines.size(); i++) {
            Matcher m = METHOD.matcher(lines.get(i));
            method = m.matches() ? m.group(2) : method;
            if (code(lines.get(i)).matches(".*\\bnew\\b.*") || code(lines.get(i)).contains("clone(")) {
                found++;
                check(!method.isEmpty() && Character.isUpperCase(method.charAt(0)), i, method + " makes an object");
            }
        }
        check(found > 10, 0, "only " + found + " lines were found that make something");
    }

    private static void classes(List<String> lines) {
        int classes = 0;
        int inside = 0;
        int outside = 0;
        for (int i = 0; i < lines.size(); i++) {
            if (code(lines.get(i)).contains("class ")) {
                classes++;
                inside = 0;
            }
            Matcher m = FIELD.matcher(lines.get(i));
            if (m.matches() && m.group(1).length() == 8) {
                inside++;
            } else if (m.matches()) {
                outside++;
            }
            check(inside <= 20 && outside <= 20, i, "a class has too many fields");
        }
        check(classes > 1 && classes <= 12, 0, "the file has " + classes + " classes");
        check(outside > 5, 0, "only " + outside + " fields were found");
    }

    public static void main(String[] args) throws IOException {
        List<String> lines = Files.readAllLines(Paths.get(args[0]));
        words(lines);
        methods(lines);
        made(lines);
        classes(lines);
        System.out.println(wrong == 0 ? "the lines keep to the language" : wrong + " lines do not keep to the language");
        if (wrong != 0) {
            System.exit(1);
        }
    }
}
