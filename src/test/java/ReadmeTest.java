import java.io.IOException;
import java.nio.file.DirectoryStream;
import java.nio.file.Files;
import java.nio.file.Path;
import java.util.Arrays;
import java.util.HashMap;
import java.util.List;
import java.util.Map;
import java.util.TreeSet;
import java.util.regex.Matcher;
import java.util.regex.Pattern;

/** README.md as it stands: its sample answers what it says, its tables have every call and every test. */
public final class ReadmeTest {
    private static final Path README = Path.of("README.md");
    private static final Path TESTS = Path.of("src/test/java");
    private static final Pattern STEP = Pattern.compile(
        "(?:int (\\w+) = )?tree\\.(\\w+)\\(([^)]*)\\);\\s*// (?:(-?\\d+)|'(.)')(?::.*)?");

    private static final Check CHECK = new Check();
    private static final Map<String, Integer> VARIABLES = new HashMap<>();

    public static void main(String[] args) throws IOException {
        List<String> lines = Files.readAllLines(README);
        sample(lines);
        tables(lines);
        CHECK.end();
    }

    private static void sample(List<String> lines) {
        int from = lines.indexOf("```java") + 1;
        int to = lines.indexOf("```");
        CHECK.due("the first line of the sample",
            lines.get(from).equals("PageTree tree = new PageTree();") ? 1 : 0, 1);
        PageTree tree = new PageTree();
        TreeSet<String> missing = new TreeSet<>(List.of(Draw.NAMES));
        for (String line : lines.subList(from + 1, to)) {
            Matcher step = STEP.matcher(line);
            if (!step.matches()) {
                throw new IllegalStateException("no call with its answer: " + line);
            }
            take(line, step, tree);
            missing.remove(step.group(2));
        }
        CHECK.due("calls without a sample: " + missing, missing.size(), 0);
    }

    private static void take(String line, Matcher step, PageTree tree) {
        String[] parts = step.group(3).isEmpty() ? new String[0] : step.group(3).split(", ");
        int[] args = Arrays.stream(parts).mapToInt(ReadmeTest::number).toArray();
        int answer = new Call(step.group(2), args).on(tree);
        if (step.group(1) != null) {
            VARIABLES.put(step.group(1), answer);
        }
        boolean isSign = step.group(5) != null;
        CHECK.due(line, answer, isSign ? step.group(5).charAt(0) : Integer.parseInt(step.group(4)));
    }

    private static int number(String text) {
        return VARIABLES.containsKey(text) ? VARIABLES.get(text) : Integer.parseInt(text);
    }

    private static void tables(List<String> lines) throws IOException {
        TreeSet<String> named = new TreeSet<>();
        for (String line : lines) {
            if (line.startsWith("| `")) {
                Matcher name = Pattern.compile("`(\\w+)`").matcher(line.substring(0, line.indexOf('|', 1)));
                while (name.find()) {
                    named.add(name.group(1));
                }
            }
        }
        TreeSet<String> due = new TreeSet<>(List.of(Draw.NAMES));
        try (DirectoryStream<Path> files = Files.newDirectoryStream(TESTS, "*Test.java")) {
            for (Path file : files) {
                due.add(file.getFileName().toString().replace(".java", ""));
            }
        }
        CHECK.due("the tables have " + named + ", not " + due, named.equals(due) ? 1 : 0, 1);
    }
}
