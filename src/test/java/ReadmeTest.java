import java.io.IOException;
import java.nio.file.Files;
import java.nio.file.Path;
import java.util.ArrayList;
import java.util.Collections;
import java.util.List;
import java.util.regex.Matcher;
import java.util.regex.Pattern;
import java.util.stream.Stream;

/** What README.md shows is what the class answers, and its tables leave no call, range or test out. */
public final class ReadmeTest {
    private static final Path ROOT = Path.of(System.getProperty("project.root", "."));
    private static final String MADE = "CapacityRound market = new CapacityRound();";
    private static final String NO_ANSWER = "no answer";

    /** A call in an example, with what is shown of its answer up to a colon. */
    private static final Pattern SHOWN = Pattern.compile("market\\.(\\w+)\\(([-\\d, ]*)\\); +// ([^:]+)(: .*)?");
    private static final Pattern ROW = Pattern.compile("\\| `(\\w+)\\(([\\w, ]*)\\)` \\|([^|]*)\\|[^|]+\\|");
    private static final Pattern DECLARED =
            Pattern.compile("^    public (\\w+) (\\w+)\\(([^)]*)\\)", Pattern.MULTILINE);

    public static void main(String[] args) throws IOException {
        List<String> readme = Files.readAllLines(ROOT.resolve("README.md"));
        String source = Files.readString(ROOT.resolve("src/main/java/CapacityRound.java"));
        theExamplesAnswerAsShown(readme, source);
        theTablesHaveEveryCall(readme, source);
        theTablesHaveEveryRange(readme);
        everyTestIsListed(readme);
        Checks.due("README tells of 512 calls", String.join(" ", readme).contains("at most 512 calls"), true);
        Checks.finish();
    }

    private static void theExamplesAnswerAsShown(List<String> readme, String source) {
        List<String> shown = new ArrayList<>();
        CapacityRound market = null;
        boolean inside = false;
        for (String line : readme) {
            if (line.startsWith("```")) {
                inside = line.equals("```java");
                market = null;
            } else if (inside && line.equals(MADE)) {
                market = new CapacityRound();
            } else if (inside && !line.isEmpty() && !line.startsWith("//")) {
                shown.add(answersAsShown(line, market, source));
            }
        }
        for (String[] declared : declared(source)) {
            Checks.due("an example shows " + declared[1], shown.contains(declared[1]), true);
        }
    }

    /** The name of the call in the line. */
    private static String answersAsShown(String line, CapacityRound market, String source) {
        Matcher shown = SHOWN.matcher(line);
        boolean isCall = shown.matches() && market != null;
        Checks.due("a call with its answer: " + line, isCall, true);
        if (!isCall) {
            return "";
        }
        Step step = Step.of(shown.group(1), numbers(shown.group(2)));
        Checks.dueText(line, shown.group(3).trim(), answer(step, market, returned(step.name, source)));
        return step.name;
    }

    private static int[] numbers(String listed) {
        return Stream.of(listed.split(", ")).filter(text -> !text.isEmpty()).mapToInt(Integer::parseInt).toArray();
    }

    private static String answer(Step step, CapacityRound market, String returned) {
        try {
            long answer = step.on(market);
            switch (returned) {
                case "void":
                    return NO_ANSWER;
                case "boolean":
                    return answer == 1 ? "true" : "false";
                default:
                    return Long.toString(answer);
            }
        } catch (RuntimeException e) {
            return "throws " + e.getClass().getSimpleName();
        }
    }

    /** The calls in the source: what they return, their names, the names of their arguments. */
    private static List<String[]> declared(String source) {
        List<String[]> calls = new ArrayList<>();
        Matcher declared = DECLARED.matcher(source);
        while (declared.find()) {
            calls.add(new String[] {declared.group(1), declared.group(2), declared.group(3).replace("int ", "")});
        }
        return calls;
    }

    private static String returned(String name, String source) {
        for (String[] declared : declared(source)) {
            if (declared[1].equals(name)) {
                return declared[0];
            }
        }
        return "";
    }

    private static List<Matcher> rows(List<String> readme) {
        List<Matcher> rows = new ArrayList<>();
        for (String line : readme) {
            Matcher row = ROW.matcher(line);
            if (row.matches()) {
                rows.add(row);
            }
        }
        return rows;
    }

    private static void theTablesHaveEveryCall(List<String> readme, String source) {
        List<String> got = new ArrayList<>();
        for (Matcher row : rows(readme)) {
            got.add(row.group(1) + "(" + row.group(2) + ")");
        }
        List<String> want = new ArrayList<>();
        for (String[] declared : declared(source)) {
            want.add(declared[1] + "(" + declared[2] + ")");
        }
        Checks.due("calls", want.size(), 21);
        Checks.dueText("the calls of README's tables", got.toString(), want.toString());
    }

    private static void theTablesHaveEveryRange(List<String> readme) {
        List<String> got = new ArrayList<>();
        for (Matcher row : rows(readme)) {
            for (String range : row.group(3).trim().split(", ")) {
                if (!range.isEmpty()) {
                    got.add(row.group(1) + ": " + range);
                }
            }
        }
        List<String> want = new ArrayList<>();
        for (Range range : Range.all()) {
            String told = told(range, readme);
            if (!want.contains(told)) {
                want.add(told);
            }
        }
        Collections.sort(got);
        Collections.sort(want);
        Checks.dueText("the ranges of README's tables", got.toString(), want.toString());
    }

    /** A range as README has to tell it; two of them hang on something else than their own ends. */
    private static String told(Range range, List<String> readme) {
        String call = range.base().name;
        String argument = "";
        for (Matcher row : rows(readme)) {
            if (row.group(1).equals(call)) {
                String[] arguments = row.group(2).split(", ");
                argument = range.place() < arguments.length ? arguments[range.place()] : "";
            }
        }
        String least = argument.equals("upper") ? "lower + 1" : Integer.toString(range.least());
        String most = argument.equals("offer") ? "the last that waits" : Integer.toString(range.most());
        return call + ": " + argument + " " + least + " to " + most;
    }

    private static void everyTestIsListed(List<String> readme) throws IOException {
        List<String> got = new ArrayList<>();
        for (String line : readme) {
            Matcher row = Pattern.compile("\\| `(\\w+Test)` \\|.*").matcher(line);
            if (row.matches()) {
                got.add(row.group(1) + ".java");
            }
        }
        List<String> want = new ArrayList<>();
        try (Stream<Path> files = Files.list(ROOT.resolve("src/test/java"))) {
            files.map(file -> file.getFileName().toString()).filter(name -> name.endsWith("Test.java"))
                    .forEach(want::add);
        }
        Collections.sort(got);
        Collections.sort(want);
        Checks.dueText("the tests that README lists", got.toString(), want.toString());
    }
}
