import java.io.IOException;
import java.nio.file.Files;
import java.nio.file.Path;
import java.util.ArrayList;
import java.util.LinkedHashMap;
import java.util.List;
import java.util.Map;
import java.util.regex.Matcher;
import java.util.regex.Pattern;
import java.util.stream.Stream;

/** README.md: what it shows compiles and answers as it says, and it tells every call, its refusals and the tests. */
public final class ReadmeTest {
    private static final Pattern CALL_ROW = Pattern.compile("\\| `(\\w+)\\(([^)]*)\\)` \\| ([^|]+) \\| ([^|]*) \\|");
    private static final Pattern REFUSAL_ROW = Pattern.compile("\\| `([A-Z]+)` \\| (-\\d+) \\| [^|]+ \\|");
    private static final Pattern REFUSAL = Pattern.compile("\\b(UNKNOWN|OUTSIDE|NOT|FULL)\\b");

    private static int wrong = 0;

    private ReadmeTest() {
    }

    private static void mustBe(boolean holds, String what) {
        if (!holds) {
            wrong++;
            System.out.println("readme: " + what);
        }
    }

    public static void main(String[] args) throws IOException {
        String text = Files.readString(Path.of("README.md"));
        Page page = new Page(text);
        showsWhatIsSo(page);
        showsEveryCallAndEveryRefusal(page);
        aWrongPageIsFound(page);
        tellsEveryCall(text);
        tellsEveryRefusal(text);
        tellsEveryTest(text);
        System.out.println(wrong == 0 ? "readme: " + page.told().size() + " answers are as it says" : wrong + " faults");
        if (wrong != 0) {
            System.exit(1);
        }
    }

    private static void showsWhatIsSo(Page page) throws IOException {
        page.faults().forEach(fault -> mustBe(false, fault));
    }

    private static void showsEveryCallAndEveryRefusal(Page page) {
        for (String call : Document.calls().keySet()) {
            mustBe(page.told().stream().anyMatch(t -> t.startsWith(call + " ")), call + " is not shown with an answer");
        }
        for (String constant : Document.constants().keySet()) {
            mustBe(page.told().stream().anyMatch(t -> t.endsWith(" " + constant)), constant + " is not shown as an answer");
        }
    }

    /** That the page is held against the class at all is seen by pages that are wrong. */
    private static void aWrongPageIsFound(Page page) throws IOException {
        mustBe(page.withOtherAnswers().faults().size() == page.told().size(), "an answer that is another one is not found");
        mustBe(!new Page("").faults().isEmpty(), "a page without a use is not found");
        String made = "```java\nSoundPictures x = new SoundPictures();\n";
        mustBe(new Page(made + "x.undo();  // NOT: none\n```").faults().isEmpty(), "a right page is refused");
        mustBe(!new Page(made + "x.undo();\n```").faults().isEmpty(), "an answer that is not told is not found");
        mustBe(!new Page(made + "x.undo();  // 0\n```").faults().isEmpty(), "a wrong answer is not found");
        mustBe(!new Page(made + "y.undo();\n```").faults().isEmpty(), "a use that does not compile is not found");
    }

    private static void tellsEveryCall(String text) {
        Map<String, String> rows = new LinkedHashMap<>();
        Matcher row = CALL_ROW.matcher(text);
        while (row.find()) {
            rows.put(row.group(1), row.group(2) + " " + refusalsIn(row.group(4)));
        }
        Map<String, String> due = new LinkedHashMap<>();
        Document.calls().forEach((call, parameters) ->
            due.put(call, parameters.replace("int ", "") + " " + Document.refusals(call)));
        mustBe(due.size() == 21, "the document's face was not found");
        mustBe(rows.keySet().equals(due.keySet()), "it tells the calls " + rows.keySet());
        due.forEach((call, want) -> mustBe(want.equals(rows.get(call)), call + " is told as " + rows.get(call)
            + ", due is " + want));
    }

    private static List<String> refusalsIn(String cell) {
        List<String> refusals = new ArrayList<>();
        Matcher m = REFUSAL.matcher(cell);
        while (m.find()) {
            refusals.add(m.group(1));
        }
        return refusals;
    }

    private static void tellsEveryRefusal(String text) {
        Map<String, Integer> told = new LinkedHashMap<>();
        Matcher row = REFUSAL_ROW.matcher(text);
        while (row.find()) {
            told.put(row.group(1), Integer.valueOf(row.group(2)));
        }
        Map<String, Integer> due = Document.constants();
        due.remove("NONE");
        mustBe(new ArrayList<>(told.entrySet()).equals(new ArrayList<>(due.entrySet())), "it tells the refusals " + told);
    }

    private static void tellsEveryTest(String text) throws IOException {
        mustBe(text.contains(".ci/run"), "it does not tell how the tests are run");
        try (Stream<Path> tests = Files.list(Path.of("src/test/java"))) {
            for (Path test : tests.sorted().toList()) {
                String name = test.getFileName().toString().replace(".java", "");
                mustBe(text.contains("`" + name + "`"), "it does not tell of " + name);
            }
        }
        Matcher told = Pattern.compile("`(\\w+Test)`").matcher(text);
        while (told.find()) {
            mustBe(Files.exists(Path.of("src/test/java", told.group(1) + ".java")), told.group(1) + " is told, but is not");
        }
    }
}
