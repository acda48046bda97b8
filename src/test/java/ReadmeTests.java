import java.io.IOException;
import java.nio.file.Files;
import java.nio.file.Path;
import java.util.ArrayList;
import java.util.HashMap;
import java.util.List;
import java.util.Map;
import java.util.regex.Matcher;
import java.util.regex.Pattern;

/** README.md: its examples, played line by line, and its tables of calls and refusals. */
final class ReadmeTests {
    private static final Pattern OBJECT = Pattern.compile("WellTables (\\w+) = new WellTables\\(\\);");
    private static final Pattern CALL =
        Pattern.compile("(?:int (\\w+) = )?(\\w+)\\.(\\w+)\\(([^()]*)\\);\\s*// (-?\\d+)(?::.*)?");
    private static final Pattern FACE = Pattern.compile("    public ((?:int|long) \\w+\\([^)]*\\));");
    private static final Pattern CONSTANT = Pattern.compile("    public static final int (\\w+) = (-\\d);");

    private final Map<String, Played> objects = new HashMap<>();
    private final Map<String, Integer> names = new HashMap<>();

    private ReadmeTests() {
    }

    static void all() {
        Check.test("README: the examples have the answers beside them", ReadmeTests::examples);
        Check.test("README: the tables name each call of the document once", ReadmeTests::calls);
        Check.test("README: the refusals with their values", ReadmeTests::refusals);
        Check.test("README: the way to run the tests", ReadmeTests::tests);
    }

    private static void examples() {
        int answers = 0;
        for (List<String> block : javaBlocks()) {
            ReadmeTests example = new ReadmeTests();
            for (String line : block) {
                answers += example.play(line);
            }
        }
        Check.holds("answers found: " + answers, answers > 40);
    }

    private static List<List<String>> javaBlocks() {
        List<List<String>> blocks = new ArrayList<>();
        List<String> block = null;
        for (String line : lines("README.md")) {
            if (line.startsWith("```")) {
                block = line.equals("```java") ? new ArrayList<>() : null;
                if (block != null) {
                    blocks.add(block);
                }
            } else if (block != null && !line.isBlank()) {
                block.add(line);
            }
        }
        return blocks;
    }

    /** How many answers were compared: a line is a new object, or one call with its answer. */
    private int play(String line) {
        Matcher object = OBJECT.matcher(line);
        if (object.matches()) {
            objects.put(object.group(1), new Played(new WellTables()));
            return 0;
        }
        Matcher call = CALL.matcher(line);
        boolean isRead = call.matches() && objects.containsKey(call.group(2));
        Check.holds("not read: " + line, isRead);
        if (!isRead) {
            return 0;
        }
        long got = objects.get(call.group(2)).call(call.group(3), numbers(call.group(4)));
        Check.same(line, Long.parseLong(call.group(5)), got);
        if (call.group(1) != null) {
            names.put(call.group(1), (int) got);
        }
        return 1;
    }

    private int[] numbers(String told) {
        String[] words = told.isEmpty() ? new String[0] : told.split(", ");
        int[] numbers = new int[words.length];
        for (int k = 0; k < words.length; k++) {
            numbers[k] = sum(words[k]);
        }
        return numbers;
    }

    private int sum(String told) {
        int sum = 0;
        for (String product : told.split(" \\+ ")) {
            int all = 1;
            for (String word : product.split(" \\* ")) {
                all *= number(word);
            }
            sum += all;
        }
        return sum;
    }

    private int number(String word) {
        if (names.containsKey(word)) {
            return names.get(word);
        }
        switch (word) {
            case "true":
                return 1;
            case "false":
                return 0;
            case "WellTables.BEYOND":
                return WellTables.BEYOND;
            case "WellTables.NO":
                return WellTables.NO;
            default:
                return Integer.parseInt(word);
        }
    }

    private static void calls() {
        int calls = 0;
        for (String line : lines("../shared/DOC.md")) {
            Matcher call = FACE.matcher(line);
            if (call.matches()) {
                calls++;
                Check.same("rows of " + call.group(1), 1, rows("| `" + call.group(1) + "` | "));
            }
        }
        Check.same("calls of the document", 31, calls);
    }

    private static void refusals() {
        int constants = 0;
        for (String line : lines("../shared/DOC.md")) {
            Matcher constant = CONSTANT.matcher(line);
            if (constant.matches()) {
                constants++;
                boolean isNone = constant.group(1).equals("NONE");
                String due = isNone ? "`NONE` (-1) " : "| `" + constant.group(1) + "` | " + constant.group(2) + " | ";
                Check.same("rows with " + due, 1, rows(due));
            }
        }
        Check.same("constants of the document", 8, constants);
    }

    private static void tests() {
        Check.same("rows with .ci/run", 1, rows(".ci/run"));
        Check.holds(".ci/run can't be run", Files.isExecutable(Path.of(".ci/run")));
        Check.holds("the closing row isn't told", String.join("\n", lines("README.md")).contains("`N passed, N failed`"));
    }

    private static int rows(String beginning) {
        int many = 0;
        for (String line : lines("README.md")) {
            many += line.startsWith(beginning) ? 1 : 0;
        }
        return many;
    }

    private static List<String> lines(String file) {
        try {
            return Files.readAllLines(Path.of(file));
        } catch (IOException thrown) {
            throw new IllegalStateException(thrown);
        }
    }
}
