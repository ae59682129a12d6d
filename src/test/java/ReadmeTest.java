import java.io.File;
import java.io.IOException;
import java.lang.reflect.Method;
import java.lang.reflect.Modifier;
import java.nio.file.Files;
import java.nio.file.Path;
import java.util.List;
import java.util.Set;
import java.util.TreeSet;
import java.util.regex.Matcher;
import java.util.regex.Pattern;

/** What README.md shows as calls and answers is what the class answers; and it shows each call and each test. */
public final class ReadmeTest {
    private static final String NEW_OBJECT = "LentViews x = new LentViews();";
    /** "x.scans(0);   // 0: writer 0 begins a scan": the answer stands ahead of the colon. */
    private static final Pattern SHOWN = Pattern.compile("x\\.(\\w+)\\(([^)]*)\\);\\s+// (-?\\w+): .+");
    private static final Pattern CALL_IN_TABLE = Pattern.compile("`(\\w+)\\(([^)]*)\\)`");
    private static final Pattern ANSWER_IN_TABLE = Pattern.compile("\\| `([A-Z]+)` \\| (-\\d+) \\| .+ \\|");
    private static final Pattern TEST_IN_TABLE = Pattern.compile("\\| (\\w+Test) \\| .+ \\|");

    private final Set<String> shown = new TreeSet<>();
    private LentViews x;

    public static void main(String[] args) throws IOException {
        List<String> lines = Files.readAllLines(Path.of("README.md"));
        new ReadmeTest().examples(lines);
        callsInTheTable(lines);
        answersInTheTable(lines);
        testsInTheTable(lines);
        Due.end();
    }

    private void examples(List<String> lines) {
        boolean within = false;
        for (int i = 0; i < lines.size(); i++) {
            String line = lines.get(i);
            if (line.startsWith("```")) {
                within = line.equals("```java");
                x = null;
            } else if (within && line.equals(NEW_OBJECT)) {
                x = new LentViews();
            } else if (within) {
                example("README.md, line " + (i + 1), line);
            }
        }
        Due.isTrue("README.md shows each call: " + shown, shown.equals(face()));
    }

    private void example(String where, String line) {
        Matcher call = SHOWN.matcher(line);
        boolean readable = call.matches() && x != null;
        Due.isTrue(where + " shows a call of an object and its answer: " + line, readable);
        if (readable) {
            int[] numbers = call.group(2).isBlank() ? new int[0] : Script.numbersOf(call.group(2));
            Due.is(where + ": " + line, Script.call(x, call.group(1), numbers), Script.numberOf(call.group(3)));
            shown.add(call.group(1) + "/" + numbers.length);
        }
    }

    private static Set<String> face() {
        Set<String> face = new TreeSet<>();
        for (Method method : LentViews.class.getDeclaredMethods()) {
            if (Modifier.isPublic(method.getModifiers())) {
                face.add(method.getName() + "/" + method.getParameterCount());
            }
        }
        return face;
    }

    private static void callsInTheTable(List<String> lines) {
        Set<String> told = new TreeSet<>();
        for (String line : lines) {
            Matcher call = CALL_IN_TABLE.matcher(line);
            while (line.startsWith("| `") && call.find()) {
                told.add(call.group(1) + "/" + (call.group(2).isBlank() ? 0 : call.group(2).split(",").length));
            }
        }
        Due.isTrue("README.md tells what each call does: " + told, told.equals(face()));
    }

    private static void answersInTheTable(List<String> lines) {
        Set<String> told = new TreeSet<>();
        for (String line : lines) {
            Matcher answer = ANSWER_IN_TABLE.matcher(line);
            if (answer.matches()) {
                told.add(answer.group(1) + " " + answer.group(2));
            }
        }
        Set<String> due = Set.of("BAD " + LentViews.BAD, "STATE " + LentViews.STATE, "FULL " + LentViews.FULL, "NONE " + LentViews.NONE);
        Due.isTrue("README.md tells the constants: " + told, told.equals(due));
    }

    private static void testsInTheTable(List<String> lines) {
        Set<String> told = new TreeSet<>();
        for (String line : lines) {
            Matcher test = TEST_IN_TABLE.matcher(line);
            if (test.matches()) {
                told.add(test.group(1) + ".java");
            }
        }
        Set<String> there = new TreeSet<>();
        String[] files = new File("src/test/java").list((folder, name) -> name.endsWith("Test.java"));
        there.addAll(files == null ? List.of() : List.of(files));
        Due.isTrue("README.md names each test: " + told + ", there are " + there, told.equals(there));
    }
}
