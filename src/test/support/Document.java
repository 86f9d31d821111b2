import java.io.IOException;
import java.nio.file.Files;
import java.nio.file.Path;
import java.util.ArrayList;
import java.util.LinkedHashMap;
import java.util.List;
import java.util.Map;
import java.util.regex.Matcher;
import java.util.regex.Pattern;

/** What ../shared/DOC.md says, so that tests need not say it a second time. */
final class Document {
    private static final Path PATH = Path.of("../shared/DOC.md");
    private static final String TEXT = read();
    private static final Pattern METHOD = Pattern.compile("public int (\\w+)\\(([^)]*)\\);");
    private static final Pattern CONSTANT = Pattern.compile("([A-Z]+) = (-\\d+)");
    private static final Pattern REFUSAL = Pattern.compile("\\b(UNKNOWN|OUTSIDE|NOT|FULL)\\b");

    private Document() {
    }

    /** The text under a heading, in one line; empty if there is no such heading. */
    static String section(String heading) {
        int start = TEXT.indexOf(heading);
        if (start < 0) {
            return "";
        }
        // The bars of "======== 1" are no heading, but "## " ends in a blank and stands in no text of the document.
        int end = TEXT.indexOf("## ", start + heading.length());
        return end < 0 ? TEXT.substring(start) : TEXT.substring(start, end);
    }

    /** The calls of the public face in their order, each with its parameters: "int piece, int v". */
    static Map<String, String> calls() {
        Map<String, String> calls = new LinkedHashMap<>();
        Matcher m = METHOD.matcher(section("## The public face"));
        while (m.find()) {
            calls.put(m.group(1), m.group(2));
        }
        return calls;
    }

    static Map<String, Integer> constants() {
        Map<String, Integer> constants = new LinkedHashMap<>();
        Matcher m = CONSTANT.matcher(section("## The public face"));
        while (m.find()) {
            constants.put(m.group(1), Integer.valueOf(m.group(2)));
        }
        return constants;
    }

    /** The refusals that the promise of a call names, in its order. */
    static List<String> refusals(String call) {
        List<String> refusals = new ArrayList<>();
        Matcher heading = Pattern.compile("## Promise \\d+: " + call + " ").matcher(TEXT);
        Matcher m = REFUSAL.matcher(heading.find() ? section(heading.group()) : "");
        while (m.find()) {
            refusals.add(m.group(1));
        }
        return refusals;
    }

    private static String read() {
        try {
            return Files.readString(PATH).replaceAll("\\s+", " ");
        } catch (IOException e) {
            System.out.println("no document at " + PATH.toAbsolutePath());
            return "";
        }
    }
}
