import com.sun.source.tree.*;
import com.sun.source.util.JavacTask;
import com.sun.source.util.TreePath;
import com.sun.source.util.TreePathScanner;
import com.sun.source.util.Trees;
import java.nio.file.Files;
import java.nio.file.Path;
import java.util.ArrayList;
import java.util.HashMap;
import java.util.LinkedHashMap;
import java.util.LinkedHashSet;
import java.util.List;
import java.util.Map;
import java.util.Set;
import java.util.TreeSet;
import javax.lang.model.element.Element;
import javax.lang.model.element.ElementKind;
import javax.lang.model.element.ExecutableElement;
import javax.lang.model.element.Modifier;
import javax.tools.JavaCompiler;
import javax.tools.ToolProvider;

/** The rules of LANGUAGE.md that can be read off the source; each fault is told with the rule's number. */
public final class LanguageTest extends TreePathScanner<Void, Void> {
    private static final Path SOURCE = Path.of("src/main/java/NameBoard.java");
    private static final Set<String> FACE = new TreeSet<>(List.of("feed", "end", "next", "place", "part", "people", "counted",
            "live", "name", "spelling", "act", "fault", "spell", "letter", "led", "alikes", "edits", "first", "beside",
            "swings", "ask", "vote", "close", "settled", "undo", "shown", "sign", "anew", "signOf", "plan", "planned",
            "paper", "written", "join", "joined", "count", "keep", "back", "row", "tear", "write", "paste"));
    private static final Set<String> LIBRARY = Set.of("String.length", "String.charAt", "Math.min", "Math.max",
            "Integer.bitCount", "System.arraycopy", "Arrays.fill", "Object.Object");
    private static final Set<Tree.Kind> FORBIDDEN = Set.of(Tree.Kind.THROW, Tree.Kind.TRY, Tree.Kind.SYNCHRONIZED,
            Tree.Kind.ASSERT, Tree.Kind.LAMBDA_EXPRESSION, Tree.Kind.MEMBER_REFERENCE, Tree.Kind.SWITCH_EXPRESSION,
            Tree.Kind.INSTANCE_OF, Tree.Kind.DO_WHILE_LOOP);

    private final Trees trees;
    private final CompilationUnitTree unit;
    private final Map<String, Set<String>> calls = new LinkedHashMap<>();
    private final Map<String, Integer> fields = new HashMap<>();
    private final Set<String> face = new TreeSet<>();
    private int classes;
    private int wrong;

    private LanguageTest(Trees trees, CompilationUnitTree unit) {
        this.trees = trees;
        this.unit = unit;
    }

    public static void main(String[] args) throws Exception {
        JavaCompiler compiler = ToolProvider.getSystemJavaCompiler();
        var files = compiler.getStandardFileManager(null, null, null);
        JavacTask task = (JavacTask) compiler.getTask(null, files, null, List.of("--release", "17"), null,
                files.getJavaFileObjects(SOURCE));
        CompilationUnitTree unit = task.parse().iterator().next();
        task.analyze();
        LanguageTest test = new LanguageTest(Trees.instance(task), unit);
        test.scan(unit, null);
        test.close();
        System.out.println(test.classes + " classes, " + test.calls.size() + " methods, deepest call "
                + test.deepest() + ", " + test.wrong + " faults");
        if (test.wrong != 0) {
            System.exit(1);
        }
    }

    private void blame(int rule, String what) {
        wrong++;
        System.out.println("rule " + rule + ": " + what);
    }

    private void close() throws Exception {
        if (!face.equals(FACE)) {
            blame(1, "the face is " + face);
        }
        if (classes > 12) {
            blame(11, classes + " classes");
        }
        fields.forEach((name, n) -> {
            if (n > 20) {
                blame(11, name + " has " + n + " fields");
            }
        });
        if (deepest() > 8) {
            blame(11, "calls go " + deepest() + " deep");
        }
        for (byte b : Files.readAllBytes(SOURCE)) {
            if (b < 0) {
                blame(4, "a byte above 127");
                break;
            }
        }
    }

    @Override
    public Void scan(Tree tree, Void p) {
        if (tree != null && FORBIDDEN.contains(tree.getKind())) {
            blame(6, tree.getKind() + " at line " + line(tree));
        }
        return super.scan(tree, p);
    }

    private long line(Tree tree) {
        return unit.getLineMap().getLineNumber(trees.getSourcePositions().getStartPosition(unit, tree));
    }

    private long lastLine(Tree tree) {
        return unit.getLineMap().getLineNumber(trees.getSourcePositions().getEndPosition(unit, tree));
    }

    private boolean isFace() {
        return getCurrentPath().getParentPath().getLeaf() instanceof ClassTree c && c.getSimpleName().contentEquals("NameBoard");
    }

    @Override
    public Void visitClass(ClassTree tree, Void p) {
        classes++;
        Set<Modifier> has = tree.getModifiers().getFlags();
        boolean top = tree.getSimpleName().contentEquals("NameBoard");
        if (top ? !has.contains(Modifier.PUBLIC) || !has.contains(Modifier.FINAL)
                : !has.contains(Modifier.STATIC) || has.contains(Modifier.PUBLIC) || has.contains(Modifier.PROTECTED)) {
            blame(1, "class " + tree.getSimpleName());
        }
        for (Tree member : tree.getMembers()) {
            if (member instanceof BlockTree) {
                blame(5, "an initialiser block at line " + line(member));
            }
        }
        return super.visitClass(tree, p);
    }

    @Override
    public Void visitVariable(VariableTree tree, Void p) {
        Element e = trees.getElement(getCurrentPath());
        Set<Modifier> has = tree.getModifiers().getFlags();
        if (e.getKind() == ElementKind.FIELD) {
            if (has.contains(Modifier.STATIC)) {
                if (!has.contains(Modifier.FINAL)) {
                    blame(5, "static " + tree.getName() + " is not final");
                }
            } else {
                fields.merge(e.getEnclosingElement().toString(), 1, Integer::sum);
            }
            if (isFace() && !has.contains(Modifier.PRIVATE) && !tree.getName().contentEquals("NONE")) {
                blame(1, "the field " + tree.getName());
            }
        }
        return super.visitVariable(tree, p);
    }

    @Override
    public Void visitMethod(MethodTree tree, Void p) {
        ExecutableElement e = (ExecutableElement) trees.getElement(getCurrentPath());
        calls.put(key(e), new LinkedHashSet<>());
        boolean open = tree.getModifiers().getFlags().contains(Modifier.PUBLIC);
        String name = tree.getName().toString();
        if (isFace() && open && !name.equals("<init>")) {
            face.add(name);
        } else if (FACE.contains(name)) {
            blame(1, "a method of its own bears the name " + name);
        } else if (isFace() && !open && !tree.getModifiers().getFlags().contains(Modifier.PRIVATE)) {
            blame(1, "the method " + name);
        }
        if (tree.getParameters().size() > 7) {
            blame(11, name + " takes " + tree.getParameters().size());
        }
        if (tree.getBody() != null && lastLine(tree) - line(tree) > 60) {
            blame(11, name + " is long");
        }
        return super.visitMethod(tree, p);
    }

    private static String key(Element e) {
        return e.getEnclosingElement().getSimpleName() + "." + e.getSimpleName();
    }

    private void called(Tree tree) {
        Element e = trees.getElement(new TreePath(getCurrentPath(), tree));
        if (e == null) {
            e = trees.getElement(getCurrentPath());
        }
        String owner = e.getEnclosingElement().toString();
        String simple = e.getEnclosingElement().getSimpleName() + "."
                + (e.getKind() == ElementKind.CONSTRUCTOR ? e.getEnclosingElement().getSimpleName() : e.getSimpleName());
        if (!owner.startsWith("NameBoard") && !LIBRARY.contains(simple)) {
            blame(4, simple + " at line " + line(tree));
        }
        MethodTree in = null;
        for (Tree t : getCurrentPath()) {
            if (t instanceof MethodTree m) {
                in = m;
                break;
            }
        }
        if (in != null && owner.startsWith("NameBoard")) {
            calls.get(key(trees.getElement(trees.getPath(unit, in)))).add(key(e));
        }
    }

    /** The library copies and fills rows of numbers alone. */
    private void looksAtRows(MethodInvocationTree tree) {
        String called = tree.getMethodSelect().toString();
        if (!called.equals("System.arraycopy") && !called.startsWith("Arrays.")) {
            return;
        }
        for (Tree argument : tree.getArguments()) {
            String type = trees.getTypeMirror(new TreePath(getCurrentPath(), argument)).toString();
            if (type.endsWith("[]") && !type.matches("(byte|short|int|long)\\[\\]")) {
                blame(4, called + " over " + type + " at line " + line(tree));
            }
        }
    }

    @Override
    public Void visitMethodInvocation(MethodInvocationTree tree, Void p) {
        called(tree.getMethodSelect());
        looksAtRows(tree);
        return super.visitMethodInvocation(tree, p);
    }

    @Override
    public Void visitNewClass(NewClassTree tree, Void p) {
        called(tree);
        if (tree.getClassBody() != null) {
            blame(2, "an anonymous class at line " + line(tree));
        }
        return super.visitNewClass(tree, p);
    }

    @Override
    public Void visitBinary(BinaryTree tree, Void p) {
        if (tree.getKind() == Tree.Kind.PLUS
                && trees.getTypeMirror(getCurrentPath()).toString().equals("java.lang.String")) {
            blame(10, "a text joined by + at line " + line(tree));
        }
        return super.visitBinary(tree, p);
    }

    private int deepest() {
        int deepest = 0;
        for (String method : calls.keySet()) {
            deepest = Math.max(deepest, depth(method, new ArrayList<>()));
        }
        return deepest;
    }

    private int depth(String method, List<String> open) {
        if (open.contains(method)) {
            blame(8, "recursion: " + open + " " + method);
            return 0;
        }
        open.add(method);
        int below = 0;
        for (String other : calls.getOrDefault(method, Set.of())) {
            below = Math.max(below, depth(other, open));
        }
        open.remove(method);
        return below + 1;
    }
}
