import java.io.IOException;
import java.lang.reflect.InvocationTargetException;
import java.lang.reflect.Method;
import java.nio.file.Files;
import java.nio.file.Paths;
import java.util.ArrayList;
import java.util.List;
import java.util.Map;
import java.util.TreeMap;
import java.util.regex.Matcher;
import java.util.regex.Pattern;

/**
 * Tests that each name a promise and a sentence of the document, and hold it by a run of calls on new objects.
 *
 * <p>A run has a call a line: "call -> answer" where the answer is looked at, "call" alone where it only must not be
 * refused, "5 x call .." for five calls; "new" for another object, "write text" for clearText() and the characters.
 */
final class Sentences {
    private static final int MOST_CALLS = 512;
    private static final Pattern LINE = Pattern.compile("(?:(\\d+) x )?(\\w+)\\((.*?)\\)(?: -> (.+))?");
    private static final Pattern BULLET = Pattern.compile("(?:^|: )- (`\\w+`: .*)$");
    private static final Map<String, Integer> WORDS = Map.of("UNKNOWN", DistrictTotals.UNKNOWN, "BAD_VALUE",
            DistrictTotals.BAD_VALUE, "FULL", DistrictTotals.FULL, "NONE", DistrictTotals.NONE,
            "MIN", Integer.MIN_VALUE, "MAX", Integer.MAX_VALUE);

    private final Map<Integer, List<String>> promises = new TreeMap<>();
    private final Map<Integer, List<String>> held = new TreeMap<>();
    private final Map<String, Method> methods = new TreeMap<>();
    private final StringBuilder terms = new StringBuilder();

    private DistrictTotals town;
    private int calls;
    private int checks;
    private String test;
    private int tests = 0;
    private int wrong = 0;

    Sentences(String document) throws IOException {
        int promise = 0;
        for (String line : Files.readAllLines(Paths.get(document))) {
            Matcher title = Pattern.compile("## Promise (\\d+): .*").matcher(line);
            if (title.matches()) {
                promise = Integer.parseInt(title.group(1));
                promises.put(promise, new ArrayList<>());
            } else if (promise == 0) {
                terms.append(line).append('\n');
            } else {
                promises.get(promise).add(line);
            }
        }
        for (Method method : DistrictTotals.class.getDeclaredMethods()) {
            methods.put(method.getName(), method);
        }
    }

    /** The sentence stands under the promise. */
    void holds(int promise, String sentence, String run) {
        begin(promise, sentence);
        List<String> lines = promises.getOrDefault(promise, List.of());
        check(lines.stream().anyMatch(line -> line.contains(sentence)), "the sentence does not stand there");
        held.computeIfAbsent(promise, none -> new ArrayList<>()).add(sentence);
        run(run);
    }

    /** The sentence stands before the promises; it is held by calls of the one that is named. */
    void term(int promise, String sentence, String run) {
        begin(promise, sentence);
        check(terms.indexOf(sentence) >= 0, "the sentence does not stand there");
        run(run);
    }

    private void begin(int promise, String sentence) {
        tests++;
        checks = 0;
        test = "promise " + promise + ", \"" + sentence + "\"";
    }

    void check(boolean right, String what) {
        if (!right) {
            wrong++;
            System.out.println(test + ": " + what);
        }
    }

    private void run(String run) {
        setUp(run);
        check(checks > 0, "no answer is looked at");
    }

    /** Makes a new object and does the calls of the run on it. */
    void setUp(String run) {
        begin();
        for (String line : run.split("\n")) {
            if (line.equals("new")) {
                begin();
            } else if (line.startsWith("write")) {
                write(line.substring(Math.min(line.length(), "write ".length())));
            } else if (!line.isBlank()) {
                callLine(line.trim());
            }
        }
    }

    /** The last object of the run that was done last. */
    DistrictTotals town() {
        return town;
    }

    private void begin() {
        town = new DistrictTotals();
        calls = 0;
    }

    private void write(String text) {
        call("clearText", "");
        for (int i = 0; i < text.length(); i++) {
            call("type", "" + (int) text.charAt(i));
        }
    }

    private void callLine(String line) {
        Matcher parts = LINE.matcher(line);
        if (!parts.matches()) {
            throw new IllegalArgumentException(line);
        }
        int times = parts.group(1) == null ? 1 : Integer.parseInt(parts.group(1));
        for (int time = 0; time < times; time++) {
            double got = call(parts.group(2), parts.group(3));
            if (parts.group(4) == null) {
                check(got >= 0, line + " answered " + got);
            } else {
                checks++;
                check(got == due(parts.group(4)), line + ", but answered " + got);
            }
        }
    }

    private double call(String name, String arguments) {
        Method method = methods.get(name);
        String[] words = arguments.isEmpty() ? new String[0] : arguments.split(", ");
        Object[] values = new Object[words.length];
        for (int i = 0; i < words.length; i++) {
            values[i] = argument(method.getParameterTypes()[i], words[i]);
        }
        calls++;
        check(calls <= MOST_CALLS, "what is answered after so many calls is free");
        try {
            return ((Number) method.invoke(town, values)).doubleValue();
        } catch (InvocationTargetException | IllegalAccessException failed) {
            check(false, name + "(" + arguments + ") threw " + failed.getCause());
            return Double.NaN;
        }
    }

    private static Object argument(Class<?> type, String word) {
        if (type == boolean.class) {
            return Boolean.valueOf(word);
        }
        if (type == char.class) {
            return word.startsWith("'") ? word.charAt(1) : (char) Integer.parseInt(word);
        }
        return number(word);
    }

    private static int number(String word) {
        return WORDS.containsKey(word) ? WORDS.get(word) : Integer.parseInt(word);
    }

    /** A number, a constant's name, a set as {1, 2}, or a quotient of floats as 4/3. */
    private static double due(String word) {
        if (word.startsWith("{")) {
            int set = 0;
            String members = word.substring(1, word.length() - 1);
            for (String member : members.isEmpty() ? new String[0] : members.split(", ")) {
                set |= 1 << Integer.parseInt(member);
            }
            return set;
        }
        int stroke = word.indexOf('/');
        if (stroke > 0) {
            return Float.parseFloat(word.substring(0, stroke)) / Float.parseFloat(word.substring(stroke + 1));
        }
        return number(word);
    }

    /** Each parameter's line and each clause of a Returns line must have been named by a test. */
    void checkThatEachClauseIsHeld() {
        for (int promise : promises.keySet()) {
            for (String clause : clauses(promises.get(promise))) {
                List<String> sentences = held.getOrDefault(promise, List.of());
                test = "promise " + promise + ", \"" + clause + "\"";
                check(sentences.stream().anyMatch(s -> s.contains(clause) || clause.contains(s)), "has no test");
            }
        }
    }

    private static List<String> clauses(List<String> lines) {
        List<String> clauses = new ArrayList<>();
        for (String line : lines) {
            Matcher bullet = BULLET.matcher(line);
            if (bullet.find()) {
                clauses.add(bullet.group(1));
            } else if (line.startsWith("Returns ")) {
                for (String clause : line.substring(0, line.length() - 1).split("; ")) {
                    clauses.add(clause);
                }
            }
        }
        return clauses;
    }

    int tests() {
        return tests;
    }

    int wrong() {
        return wrong;
    }
}
