import java.io.IOException;
import java.io.StringWriter;
import java.lang.reflect.InvocationTargetException;
import java.net.URI;
import java.net.URL;
import java.net.URLClassLoader;
import java.nio.file.Files;
import java.nio.file.Path;
import java.util.ArrayList;
import java.util.Comparator;
import java.util.List;
import java.util.regex.Matcher;
import java.util.regex.Pattern;
import java.util.stream.Stream;
import javax.tools.JavaCompiler;
import javax.tools.JavaFileObject;
import javax.tools.SimpleJavaFileObject;
import javax.tools.ToolProvider;

/**
 * A page that shows uses of the class in blocks of Java, each of which stands by itself. A line with one call of x says
 * behind "//" what the call answers: a number or a constant's name, then perhaps a colon and more words.
 */
final class Page {
    private static final Pattern CALL = Pattern.compile("(\\s*(?:int \\w+ = )?)(x\\.(\\w+)\\([^()]*\\));(.*)");
    private static final Pattern ANSWER = Pattern.compile("(\\s*// )(-?\\d+|[A-Z]+)(|:.*)");
    private static final String NAME = "ShownUse";

    private final String[] lines;
    private final List<String> faults = new ArrayList<>();
    private final List<String> told = new ArrayList<>();
    private int blocks = 0;

    Page(String text) {
        lines = text.split("\n", -1);
    }

    /** All that is not as the page says; empty if everything is. */
    List<String> faults() throws IOException {
        faults.clear();
        told.clear();
        blocks = 0;
        String program = program();
        if (blocks == 0) {
            faults.add("the page shows no use");
        }
        if (faults.isEmpty()) {
            compileAndRun(program);
        }
        return faults;
    }

    /** What the page tells answers of, as "add UNKNOWN"; known once faults() was asked. */
    List<String> told() {
        return told;
    }

    /** The same page, but each answer is another one. */
    Page withOtherAnswers() {
        StringBuilder text = new StringBuilder();
        for (String line : lines) {
            Matcher call = CALL.matcher(line);
            Matcher answer = ANSWER.matcher(call.matches() ? call.group(4) : "");
            text.append(answer.matches() ? line.substring(0, call.start(4)) + answer.group(1) + "777" : line).append('\n');
        }
        return new Page(text.toString());
    }

    /** Each block comes twice: as it is shown, to see that it compiles, and with its answers held against it. */
    private String program() {
        StringBuilder shown = new StringBuilder();
        StringBuilder held = new StringBuilder();
        boolean within = false;
        for (int i = 0; i < lines.length; i++) {
            if (!within && lines[i].equals("```java")) {
                within = true;
                shown.append("static void shown").append(blocks).append("() {\n");
                held.append("static void held").append(blocks).append("() {\n");
                blocks++;
            } else if (within && lines[i].equals("```")) {
                within = false;
                shown.append("}\n");
                held.append("}\n");
            } else if (within) {
                shown.append(lines[i]).append('\n');
                held.append(held(lines[i], i + 1)).append('\n');
            }
        }
        return "public final class " + NAME + " {\n" + shown + held + frame() + "}\n";
    }

    private String frame() {
        StringBuilder all = new StringBuilder("static java.util.List<String> faults = new java.util.ArrayList<>();\n"
            + "static int due(int line, String call, int got, int want) {\n"
            + "if (got != want) { faults.add(\"line \" + line + \": \" + call + \" answered \" + got + \", not \" + want); }\n"
            + "return got;\n}\n"
            + "public static java.util.List<String> run() {\n");
        for (int i = 0; i < blocks; i++) {
            all.append("held").append(i).append("();\n");
        }
        return all.append("return faults;\n}\n").toString();
    }

    private String held(String line, int number) {
        Matcher call = CALL.matcher(line);
        if (!call.matches()) {
            return line;
        }
        Matcher answer = ANSWER.matcher(call.group(4));
        if (!answer.matches()) {
            // A call within a loop answers each time anew; one that stands by itself is to say what it answers.
            if (call.group(1).isEmpty()) {
                faults.add("line " + number + " does not tell what it answers");
            }
            return line;
        }
        String want = answer.group(2);
        told.add(call.group(3) + " " + want);
        return call.group(1) + "due(" + number + ", \"" + call.group(2) + "\", " + call.group(2) + ", "
            + (Character.isLetter(want.charAt(0)) ? "SoundPictures." + want : want) + ");";
    }

    private void compileAndRun(String program) throws IOException {
        Path classes = Files.createTempDirectory("shown");
        try {
            StringWriter complaints = new StringWriter();
            JavaCompiler compiler = ToolProvider.getSystemJavaCompiler();
            List<String> options = List.of("-d", classes.toString(), "-cp", System.getProperty("java.class.path"));
            if (compiler.getTask(complaints, null, null, options, null, List.of(source(program))).call()) {
                run(classes);
            } else {
                faults.add("what the page shows does not compile: " + complaints);
            }
        } finally {
            delete(classes);
        }
    }

    private void run(Path classes) throws IOException {
        try (URLClassLoader loader = new URLClassLoader(new URL[] {classes.toUri().toURL()})) {
            for (Object fault : (List<?>) loader.loadClass(NAME).getMethod("run").invoke(null)) {
                faults.add((String) fault);
            }
        } catch (InvocationTargetException e) {
            faults.add("what the page shows throws " + e.getCause());
        } catch (ReflectiveOperationException e) {
            faults.add("what the page shows can't be run: " + e);
        }
    }

    private static JavaFileObject source(String program) {
        return new SimpleJavaFileObject(URI.create("string:///" + NAME + ".java"), JavaFileObject.Kind.SOURCE) {
            @Override public CharSequence getCharContent(boolean ignoreErrors) {
                return program;
            }
        };
    }

    private static void delete(Path directory) throws IOException {
        try (Stream<Path> all = Files.walk(directory)) {
            for (Path path : all.sorted(Comparator.reverseOrder()).toList()) {
                Files.delete(path);
            }
        }
    }
}
