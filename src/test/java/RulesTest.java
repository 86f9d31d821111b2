import com.sun.source.tree.AssertTree;
import com.sun.source.tree.BinaryTree;
import com.sun.source.tree.CatchTree;
import com.sun.source.tree.ClassTree;
import com.sun.source.tree.CompilationUnitTree;
import com.sun.source.tree.LambdaExpressionTree;
import com.sun.source.tree.MemberReferenceTree;
import com.sun.source.tree.MemberSelectTree;
import com.sun.source.tree.MethodTree;
import com.sun.source.tree.NewClassTree;
import com.sun.source.tree.SynchronizedTree;
import com.sun.source.tree.ThrowTree;
import com.sun.source.tree.Tree;
import com.sun.source.tree.TryTree;
import com.sun.source.tree.VariableTree;
import com.sun.source.util.JavacTask;
import com.sun.source.util.SourcePositions;
import com.sun.source.util.TreeScanner;
import com.sun.source.util.Trees;
import java.io.File;
import java.lang.reflect.Constructor;
import java.lang.reflect.Field;
import java.lang.reflect.Method;
import java.lang.reflect.Modifier;
import java.util.Arrays;
import java.util.TreeSet;
import javax.tools.JavaCompiler;
import javax.tools.StandardJavaFileManager;
import javax.tools.ToolProvider;

/** The face of the class, and those rules of LANGUAGE.md that can be read off the source or counted. */
public final class RulesTest {
    private static final String[] FACE = {
        "add 2", "wipe 1", "lots 3", "noise 3", "louder 3", "hear 3", "bound 2", "undo 0", "told 1", "row 2", "at 2",
        "share 3", "peak 2", "key 3", "keyAt 1", "places 1", "place 2", "votes 2", "rank 2", "keep 1", "goBack 1"};
    private static final String[] CONSTANTS = {"NONE", "UNKNOWN", "OUTSIDE", "NOT", "FULL"};
    private static final int MOST_PARAMETERS = 7;
    private static final int MOST_LINES = 60;
    private static final int MOST_CLASSES = 12;
    private static final int MOST_FIELDS = 20;
    private static final long MOST_BYTES = 64 * 1024;
    private static final int MANY_CALLS = 200000;
    /** All that the class needs of rule 4's library; what it comes to need is put here, if rule 4 has it. */
    private static final String[] LIBRARY = {"Math.max", "Math.min", "System.arraycopy"};

    private static int wrong = 0;

    private RulesTest() {
    }

    private static void mustBe(boolean holds, String what) {
        if (!holds) {
            wrong++;
            System.out.println("rules: " + what);
        }
    }

    public static void main(String[] args) throws Exception {
        checkFace();
        checkSource(args.length > 0 ? args[0] : "src/main/java/SoundPictures.java");
        checkRoom();
        checkCallsBeyondTheLast();
        System.out.println(wrong == 0 ? "rules: all are kept" : wrong + " rules are broken");
        if (wrong != 0) {
            System.exit(1);
        }
    }

    private static void checkFace() {
        Class<?> c = SoundPictures.class;
        mustBe(Modifier.isPublic(c.getModifiers()) && Modifier.isFinal(c.getModifiers()), "the class is public and final");
        TreeSet<String> methods = new TreeSet<>();
        for (Method m : c.getDeclaredMethods()) {
            if (!Modifier.isPrivate(m.getModifiers())) {
                methods.add(m.getName() + " " + m.getParameterCount());
                boolean plain = Modifier.isPublic(m.getModifiers()) && !Modifier.isStatic(m.getModifiers());
                mustBe(plain && m.getReturnType() == int.class, m + " is public and answers int");
                mustBe(Arrays.stream(m.getParameterTypes()).allMatch(t -> t == int.class), m + " takes ints");
            } else {
                mustBe(Arrays.stream(FACE).noneMatch(f -> f.startsWith(m.getName() + " ")), m + " bears a public name");
            }
        }
        mustBe(methods.equals(new TreeSet<>(Arrays.asList(FACE))), "the methods are " + methods);
        TreeSet<String> fields = new TreeSet<>();
        for (Field f : c.getDeclaredFields()) {
            if (!Modifier.isPrivate(f.getModifiers())) {
                fields.add(f.getName());
                mustBe(Modifier.isPublic(f.getModifiers()) && Modifier.isFinal(f.getModifiers()), f + " is public, final");
            }
        }
        mustBe(fields.equals(new TreeSet<>(Arrays.asList(CONSTANTS))), "the constants are " + fields);
        Constructor<?>[] made = c.getDeclaredConstructors();
        mustBe(made.length == 1 && Modifier.isPublic(made[0].getModifiers()) && made[0].getParameterCount() == 0,
            "there is one constructor, public, without arguments");
        for (Class<?> inside : c.getDeclaredClasses()) {
            mustBe(Modifier.isStatic(inside.getModifiers()), inside + " is static");
        }
    }

    private static void checkSource(String path) throws Exception {
        JavaCompiler compiler = ToolProvider.getSystemJavaCompiler();
        try (StandardJavaFileManager files = compiler.getStandardFileManager(null, null, null)) {
            JavacTask task = (JavacTask) compiler.getTask(null, files, null, null, null,
                files.getJavaFileObjects(new File(path)));
            SourcePositions positions = Trees.instance(task).getSourcePositions();
            for (CompilationUnitTree unit : task.parse()) {
                mustBe(unit.getPackageName() == null, "there is no package line");
                mustBe(unit.getTypeDecls().size() == 1, "there is one class in the file");
                unit.getImports().forEach(i -> mustBe(i.toString().startsWith("import java.util."), "import: " + i));
                Reader reader = new Reader(unit, positions);
                reader.scan(unit, null);
                mustBe(reader.classes <= MOST_CLASSES, reader.classes + " classes");
            }
        }
    }

    private static final class Reader extends TreeScanner<Void, Void> {
        private final CompilationUnitTree unit;
        private final SourcePositions positions;
        int classes = 0;

        Reader(CompilationUnitTree unit, SourcePositions positions) {
            this.unit = unit;
            this.positions = positions;
        }

        private long line(long position) {
            return unit.getLineMap().getLineNumber(position);
        }

        private void mayNot(Tree tree, String what) {
            mustBe(false, what + " in line " + line(positions.getStartPosition(unit, tree)));
        }

        @Override public Void visitClass(ClassTree tree, Void x) {
            classes++;
            int fields = 0;
            for (Tree member : tree.getMembers()) {
                if (member.getKind() == Tree.Kind.BLOCK) {
                    mayNot(member, "initialiser block");
                }
                if (member instanceof VariableTree v) {
                    boolean fixed = v.getModifiers().getFlags().contains(javax.lang.model.element.Modifier.STATIC);
                    fields += fixed ? 0 : 1;
                    mustBe(!fixed || v.getModifiers().getFlags().contains(javax.lang.model.element.Modifier.FINAL),
                        "static field that is not final: " + v.getName());
                }
            }
            mustBe(fields <= MOST_FIELDS, fields + " fields in " + tree.getSimpleName());
            return super.visitClass(tree, x);
        }

        @Override public Void visitMethod(MethodTree tree, Void x) {
            long lines = line(positions.getEndPosition(unit, tree)) - line(positions.getStartPosition(unit, tree)) + 1;
            mustBe(lines <= MOST_LINES, tree.getName() + " has " + lines + " lines");
            mustBe(tree.getParameters().size() <= MOST_PARAMETERS, tree.getName() + " has too many parameters");
            boolean hidden = !tree.getModifiers().getFlags().contains(javax.lang.model.element.Modifier.PUBLIC);
            mustBe(!hidden || Arrays.stream(FACE).noneMatch(f -> f.startsWith(tree.getName() + " ")),
                tree.getName() + " bears a public name");
            return super.visitMethod(tree, x);
        }

        /** What is selected of a name with a capital is of a class: the class's own constants need no such name. */
        @Override public Void visitMemberSelect(MemberSelectTree tree, Void x) {
            boolean ofClass = Character.isUpperCase(tree.getExpression().toString().charAt(0));
            if (ofClass && !Arrays.asList(LIBRARY).contains(tree.toString())) {
                mayNot(tree, tree.toString());
            }
            return super.visitMemberSelect(tree, x);
        }

        @Override public Void visitNewClass(NewClassTree tree, Void x) {
            if (tree.getClassBody() != null) {
                mayNot(tree, "anonymous class");
            }
            return super.visitNewClass(tree, x);
        }

        @Override public Void visitBinary(BinaryTree tree, Void x) {
            boolean text = tree.getLeftOperand().getKind() == Tree.Kind.STRING_LITERAL
                || tree.getRightOperand().getKind() == Tree.Kind.STRING_LITERAL;
            if (text) {
                mayNot(tree, "joining of texts");
            }
            return super.visitBinary(tree, x);
        }

        @Override public Void visitThrow(ThrowTree tree, Void x) {
            mayNot(tree, "throw");
            return super.visitThrow(tree, x);
        }

        @Override public Void visitTry(TryTree tree, Void x) {
            mayNot(tree, "try");
            return super.visitTry(tree, x);
        }

        @Override public Void visitCatch(CatchTree tree, Void x) {
            mayNot(tree, "catch");
            return super.visitCatch(tree, x);
        }

        @Override public Void visitAssert(AssertTree tree, Void x) {
            mayNot(tree, "assert");
            return super.visitAssert(tree, x);
        }

        @Override public Void visitSynchronized(SynchronizedTree tree, Void x) {
            mayNot(tree, "synchronized");
            return super.visitSynchronized(tree, x);
        }

        @Override public Void visitLambdaExpression(LambdaExpressionTree tree, Void x) {
            mayNot(tree, "lambda");
            return super.visitLambdaExpression(tree, x);
        }

        @Override public Void visitMemberReference(MemberReferenceTree tree, Void x) {
            mayNot(tree, "method reference");
            return super.visitMemberReference(tree, x);
        }
    }

    /** What later calls answer is free, but rule 7 holds for them, too: none throws, for any arguments. */
    private static void checkCallsBeyondTheLast() {
        java.util.Random lots = new java.util.Random(8);
        int[] odd = {Integer.MIN_VALUE, Integer.MIN_VALUE + 1, -1, 0, 1, 2, 3, 4, 5, 8, 15, 16, 64, 100, 127, 128, 383,
            99999, Integer.MAX_VALUE - 1, Integer.MAX_VALUE};
        SoundPictures x = new SoundPictures();
        int a = 0;
        int b = 0;
        int c = 0;
        int call = 0;
        try {
            for (int i = 0; i < MANY_CALLS; i++) {
                call = lots.nextInt(Told.NAMES.length);
                a = odd[lots.nextInt(odd.length)];
                b = odd[lots.nextInt(odd.length)];
                c = odd[lots.nextInt(odd.length)];
                Told.ask(x, call, a, b, c);
            }
        } catch (RuntimeException e) {
            mustBe(false, Told.NAMES[call] + " of " + a + ", " + b + ", " + c + " threw " + e);
        }
    }

    private static int fullRun() {
        SoundPictures x = new SoundPictures();
        int sum = 0;
        for (int i = 0; i < 73; i++) {
            sum += x.lots(i % 5, 128, 1 + i) + x.noise(4, 3, 9) + x.told(9) + x.hear(0, 0, 128) + x.rank(3, 1);
            sum += x.keep(i % 2) + x.goBack(i % 2);
        }
        return sum;
    }

    /** All calls of a run share one room, so a run makes little beyond what the constructor makes. */
    private static void checkRoom() {
        com.sun.management.ThreadMXBean bean =
            (com.sun.management.ThreadMXBean) java.lang.management.ManagementFactory.getThreadMXBean();
        long id = Thread.currentThread().getId();
        int sum = fullRun();
        long before = bean.getThreadAllocatedBytes(id);
        sum -= fullRun();
        long bytes = bean.getThreadAllocatedBytes(id) - before;
        mustBe(sum == 0, "the same calls give the same answers");
        mustBe(bytes <= MOST_BYTES, "a run of 511 calls made " + bytes + " bytes");
    }
}
