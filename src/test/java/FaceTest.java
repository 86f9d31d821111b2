import com.sun.source.tree.ClassTree;
import com.sun.source.tree.CompilationUnitTree;
import com.sun.source.tree.MethodTree;
import com.sun.source.tree.Tree;
import com.sun.source.tree.VariableTree;
import com.sun.source.util.JavacTask;
import com.sun.source.util.SourcePositions;
import com.sun.source.util.Trees;
import java.io.File;
import java.nio.file.Files;
import java.nio.file.Path;
import java.util.ArrayList;
import java.util.LinkedHashMap;
import java.util.List;
import java.util.Map;
import java.util.StringJoiner;
import javax.lang.model.element.Modifier;
import javax.tools.JavaCompiler;
import javax.tools.StandardJavaFileManager;
import javax.tools.ToolProvider;

/** "The public face", line by line, and what the interface says ahead of the calls, read off the source. */
public final class FaceTest extends Sentences {
    private static final String[] METHODS = {
        "public int add(int piece, int v);", "public int wipe(int piece);", "public int lots(int piece, int n, int seed);",
        "public int noise(int piece, int s, int seed);", "public int louder(int piece, int a, int b);",
        "public int hear(int piece, int from, int n);", "public int bound(int what, int v);", "public int undo();",
        "public int told(int what);", "public int row(int piece, int what);", "public int at(int piece, int i);",
        "public int share(int piece, int window, int wave);", "public int peak(int piece, int window);",
        "public int key(int piece, int v, int w);", "public int keyAt(int k);", "public int places(int key);",
        "public int place(int key, int i);", "public int votes(int piece, int offset);",
        "public int rank(int k, int what);", "public int keep(int i);", "public int goBack(int i);"};

    /** The lines of the source, and what of it the public sees: each method with the number of its first line. */
    private static final List<String> LINES = new ArrayList<>();
    private static final Map<String, Integer> SEEN = new LinkedHashMap<>();
    private static final List<String> HEADS = new ArrayList<>();

    private FaceTest() {
    }

    public static void main(String[] args) throws Exception {
        read(args.length > 0 ? args[0] : "src/main/java/SoundPictures.java");
        theClass();
        theConstants();
        theConstructor();
        theMethods();
        theirOrder();
        whatTheInterfaceSays();
        finish("face");
    }

    private static void theClass() {
        face("public final class SoundPictures {");
        due("the class", HEADS.get(0), "public final class SoundPictures");
    }

    private static void theConstants() throws ReflectiveOperationException {
        face("public static final int NONE = -1, UNKNOWN = -1000000001, OUTSIDE = -1000000002, NOT = -1000000003, "
            + "FULL = -1000000004;");
        List<String> got = HEADS.subList(1, HEADS.size());
        List<String> want = new ArrayList<>();
        for (Map.Entry<String, Integer> constant : Document.constants().entrySet()) {
            want.add("public static final int " + constant.getKey());
            int value = SoundPictures.class.getField(constant.getKey()).getInt(null);
            due(constant.getKey(), "" + value, "" + constant.getValue());
        }
        due("the constants", got.toString(), want.toString());
    }

    private static void theConstructor() {
        face("public SoundPictures();");
        holds("public SoundPictures();", SEEN.containsKey("public SoundPictures();"));
    }

    private static void theMethods() {
        for (String method : METHODS) {
            face(method);
            holds(method, SEEN.containsKey(method));
        }
    }

    /** The face as a whole: nothing in it is left out, nothing else is seen, and it comes in the same order. */
    private static void theirOrder() {
        face("public SoundPictures(); public int add(int piece, int v);");
        List<String> want = new ArrayList<>(List.of("public SoundPictures();"));
        Document.calls().forEach((call, parameters) -> want.add("public int " + call + "(" + parameters + ");"));
        due("what the public sees", SEEN.keySet().toString(), want.toString());
        due("how many methods there are", "" + (SEEN.size() - 1), "" + METHODS.length);
    }

    private static void whatTheInterfaceSays() {
        terms("Ahead of the calls `add`, `wipe`, `lots`, `noise`, `louder`, `hear`, `bound`, `undo`, `told`, `row`, `at` "
            + "the interface says: ---- rows.");
        saysAhead("---- rows", 0, 10);
        terms("Ahead of the calls `share`, `peak`, `key`, `keyAt`, `places`, `place` the interface says: "
            + "---- windows, keys.");
        saysAhead("---- windows, keys", 11, 16);
        terms("Ahead of the calls `votes`, `rank` the interface says: ---- votes.");
        saysAhead("---- votes", 17, 18);
        terms("Ahead of the calls `keep`, `goBack` the interface says: ---- images.");
        saysAhead("---- images", 19, 20);
    }

    private static void saysAhead(String words, int first, int last) {
        for (int i = first; i <= last; i++) {
            int line = SEEN.getOrDefault(METHODS[i], 1) - 1;
            while (line > 0 && !LINES.get(line).contains("// ----")) {
                line--;
            }
            due("what is said ahead of " + METHODS[i], LINES.get(line).strip(), "// " + words);
        }
    }

    private static void read(String path) throws Exception {
        LINES.addAll(Files.readAllLines(Path.of(path)));
        JavaCompiler compiler = ToolProvider.getSystemJavaCompiler();
        try (StandardJavaFileManager files = compiler.getStandardFileManager(null, null, null)) {
            JavacTask task = (JavacTask) compiler.getTask(null, files, null, null, null,
                files.getJavaFileObjects(new File(path)));
            SourcePositions positions = Trees.instance(task).getSourcePositions();
            for (CompilationUnitTree unit : task.parse()) {
                ClassTree top = (ClassTree) unit.getTypeDecls().get(0);
                HEADS.add(head(top.getModifiers().getFlags()) + "class " + top.getSimpleName());
                for (Tree member : top.getMembers()) {
                    long at = positions.getStartPosition(unit, member);
                    note(top, member, at < 0 ? 0 : (int) unit.getLineMap().getLineNumber(at));
                }
            }
        }
    }

    private static void note(ClassTree top, Tree member, int line) {
        if (member instanceof MethodTree m && !m.getModifiers().getFlags().contains(Modifier.PRIVATE)) {
            StringJoiner parameters = new StringJoiner(", ", "(", ");");
            m.getParameters().forEach(p -> parameters.add(p.getType() + " " + p.getName()));
            String name = m.getReturnType() == null ? "" + top.getSimpleName() : m.getReturnType() + " " + m.getName();
            SEEN.put(head(m.getModifiers().getFlags()) + name + parameters, line);
        }
        if (member instanceof VariableTree v && !v.getModifiers().getFlags().contains(Modifier.PRIVATE)) {
            HEADS.add(head(v.getModifiers().getFlags()) + v.getType() + " " + v.getName());
        }
    }

    private static String head(Iterable<Modifier> modifiers) {
        StringBuilder all = new StringBuilder();
        for (Modifier modifier : modifiers) {
            all.append(modifier).append(' ');
        }
        return all.toString();
    }
}
