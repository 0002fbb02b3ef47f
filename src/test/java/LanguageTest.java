import com.sun.source.tree.ClassTree;
import com.sun.source.tree.CompilationUnitTree;
import com.sun.source.tree.ForLoopTree;
import com.sun.source.tree.LiteralTree;
import com.sun.source.tree.MethodInvocationTree;
import com.sun.source.tree.MethodTree;
import com.sun.source.tree.NewClassTree;
import com.sun.source.tree.Tree;
import com.sun.source.tree.VariableTree;
import com.sun.source.tree.WhileLoopTree;
import com.sun.source.util.JavacTask;
import com.sun.source.util.TreePathScanner;
import com.sun.source.util.Trees;
import java.nio.charset.StandardCharsets;
import java.nio.file.Files;
import java.nio.file.Path;
import java.util.ArrayList;
import java.util.EnumSet;
import java.util.HashMap;
import java.util.HashSet;
import java.util.LinkedHashSet;
import java.util.List;
import java.util.Map;
import java.util.Set;
import javax.lang.model.element.Element;
import javax.lang.model.element.ElementKind;
import javax.lang.model.element.ExecutableElement;
import javax.lang.model.element.Modifier;
import javax.tools.JavaCompiler;
import javax.tools.StandardJavaFileManager;
import javax.tools.ToolProvider;

/** The rules of LANGUAGE.md, by number, read off the class as the compiler sees it. */
public final class LanguageTest {
    private static final Path FILE = Path.of("src/main/java/GrassBridge.java");
    private static final Check check = new Check();

    private static final String[] FACE = {"public GrassBridge()", "public int rain(int,int)",
        "public int rainOf(int)", "public int house(int,int)", "public int set(int,int,int)",
        "public int bring(int,int,int)", "public int brought(int,int)", "public int ask(int)",
        "public int share(int)", "public int owed(int)", "public int close()",
        "public int small(int,int,int)", "public int lay(int,int,int)", "public int hang(int,int)",
        "public int cut(int)", "public int tension(int,int)", "public int strength(int)",
        "public int bears()", "public int load(int)", "public int weeks(int)", "public int till(int)",
        "public int broken(int,int)", "public int blame(int,int)", "public int strands(int,int)",
        "public int step(int,int,int,int,int)", "public int clear()", "public int plan()",
        "public int planAt(int)", "public int person(int,int)", "public int alive(int,boolean)",
        "public int master()", "public int ropeOf(int,int)", "public int count(int)"};

    private static final Set<String> LIBRARY = Set.of("java.lang.Math.max(int,int)",
        "java.lang.Math.min(int,int)", "java.lang.Math.floorDiv(int,int)", "java.lang.Integer.bitCount(int)",
        "java.lang.System.arraycopy(java.lang.Object,int,java.lang.Object,int,int)");

    private static final Set<Tree.Kind> FORBIDDEN = EnumSet.of(Tree.Kind.THROW, Tree.Kind.TRY, Tree.Kind.CATCH,
        Tree.Kind.SYNCHRONIZED, Tree.Kind.ASSERT, Tree.Kind.LAMBDA_EXPRESSION, Tree.Kind.MEMBER_REFERENCE,
        Tree.Kind.IMPORT, Tree.Kind.PACKAGE, Tree.Kind.SWITCH_EXPRESSION, Tree.Kind.ANNOTATION_TYPE);

    private final Trees trees;
    private final CompilationUnitTree unit;
    private final Map<Element, Set<Element>> calls = new HashMap<>();
    private final Set<String> face = new LinkedHashSet<>();
    private final List<String> hidden = new ArrayList<>();
    private final Set<String> own = new HashSet<>();

    private LanguageTest(Trees trees, CompilationUnitTree unit) {
        this.trees = trees;
        this.unit = unit;
    }

    public static void main(String[] args) throws Exception {
        JavaCompiler compiler = ToolProvider.getSystemJavaCompiler();
        try (StandardJavaFileManager files = compiler.getStandardFileManager(null, null, StandardCharsets.UTF_8)) {
            JavacTask task = (JavacTask) compiler.getTask(null, files, null, List.of("--release", "17"), null,
                    files.getJavaFileObjects(FILE));
            CompilationUnitTree unit = task.parse().iterator().next();
            task.analyze();
            new LanguageTest(Trees.instance(task), unit).rules();
        }
        check.end();
    }

    private void rules() throws Exception {
        check.sentence("LANGUAGE 4");
        check.due("signs beyond 127", Files.readString(FILE).chars().filter(c -> c > 127).count(), 0);
        check.sentence("LANGUAGE 1");
        check.due("classes of the file", unit.getTypeDecls().size(), 1);
        check.due("imports", unit.getImports().size(), 0);
        check.due("a package line", unit.getPackageName() == null ? 0 : 1, 0);
        Finder finder = new Finder();
        finder.scan(unit, null);
        check.sentence("LANGUAGE 1");
        for (String due : FACE) {
            check.due(due, face.remove(due) ? 1 : 0, 1);
        }
        check.due("other public members", face.toString(), "[]");
        for (String name : hidden) {
            check.due("hidden " + name, isOfFace(name) ? 1 : 0, 0);
        }
        check.sentence("LANGUAGE 11");
        check.due("classes: " + own.size(), own.size() <= 12 ? 1 : 0, 1);
        depths();
    }

    private static boolean isOfFace(String name) {
        for (String due : FACE) {
            if (due.startsWith("public int " + name + "(")) {
                return true;
            }
        }
        return false;
    }

    /** No recursion (8), and eight calls deep at most (11). */
    private void depths() {
        for (Element method : calls.keySet()) {
            int depth = depth(method, new HashSet<>());
            check.due("depth of " + method + ": " + depth, depth <= 8 ? 1 : 0, 1);
        }
        check.due("methods are seen", calls.size() > 60 ? 1 : 0, 1);
    }

    private int depth(Element method, Set<Element> open) {
        if (!open.add(method)) {
            check.due("recursion of " + method, 1, 0);
            return 1;
        }
        int deepest = 0;
        for (Element called : calls.getOrDefault(method, Set.of())) {
            deepest = Math.max(deepest, depth(called, open));
        }
        open.remove(method);
        return deepest + 1;
    }

    private final class Finder extends TreePathScanner<Void, Void> {
        private Element method;

        @Override
        public Void scan(Tree tree, Void none) {
            if (tree != null && FORBIDDEN.contains(tree.getKind())) {
                check.sentence("LANGUAGE 2, 6");
                check.due(tree.getKind() + ": " + tree, 1, 0);
            }
            return super.scan(tree, none);
        }

        @Override
        public Void visitClass(ClassTree tree, Void none) {
            String name = tree.getSimpleName().toString();
            Element it = trees.getElement(getCurrentPath());
            boolean outer = it.getEnclosingElement().getKind() == ElementKind.PACKAGE;
            check.sentence("LANGUAGE 1, 2");
            check.due("kind of " + name, tree.getKind().toString(), "CLASS");
            check.due(name + " is named", name.isEmpty() ? 0 : 1, 1);
            Set<Modifier> due = outer ? Set.of(Modifier.PUBLIC, Modifier.FINAL)
                    : Set.of(Modifier.PRIVATE, Modifier.STATIC, Modifier.FINAL);
            check.due("modifiers of " + name, it.getModifiers().equals(due) ? 1 : 0, 1);
            own.add(name);
            int fields = 0;
            for (Tree member : tree.getMembers()) {
                check.sentence("LANGUAGE 5");
                check.due("initialiser blocks of " + name, member.getKind() == Tree.Kind.BLOCK ? 1 : 0, 0);
                if (member instanceof VariableTree field) {
                    fields += field(name, outer, field);
                }
            }
            check.sentence("LANGUAGE 11");
            check.due("fields of " + name + ": " + fields, fields <= 20 ? 1 : 0, 1);
            return super.visitClass(tree, none);
        }

        /** 1 if it is no constant. */
        private int field(String of, boolean outer, VariableTree field) {
            Set<Modifier> modifiers = field.getModifiers().getFlags();
            String name = of + "." + field.getName();
            check.sentence("LANGUAGE 1");
            boolean open = modifiers.contains(Modifier.PUBLIC) || modifiers.contains(Modifier.PROTECTED);
            check.due("open field " + name, open ? 1 : 0, 0);
            check.due("hidden field " + name, !outer || modifiers.contains(Modifier.PRIVATE) ? 1 : 0, 1);
            if (!modifiers.contains(Modifier.STATIC)) {
                return 1;
            }
            check.sentence("LANGUAGE 5");
            check.due("final " + name, modifiers.contains(Modifier.FINAL) ? 1 : 0, 1);
            check.due("type of " + name, field.getType().toString(), "int");
            return 0;
        }

        @Override
        public Void visitMethod(MethodTree tree, Void none) {
            ExecutableElement it = (ExecutableElement) trees.getElement(getCurrentPath());
            Element of = it.getEnclosingElement();
            Set<Modifier> modifiers = it.getModifiers();
            boolean outer = of.getEnclosingElement().getKind() == ElementKind.PACKAGE;
            check.sentence("LANGUAGE 1");
            if (modifiers.contains(Modifier.PUBLIC)) {
                String told = it.getKind() == ElementKind.CONSTRUCTOR ? of.getSimpleName() + "()"
                        : it.getReturnType() + " " + it;
                face.add("public " + told);
            } else {
                hidden.add(it.getSimpleName().toString());
                check.due("private " + it, !outer || modifiers.contains(Modifier.PRIVATE) ? 1 : 0, 1);
                check.due("protected " + it, modifiers.contains(Modifier.PROTECTED) ? 1 : 0, 0);
            }
            check.sentence("LANGUAGE 6");
            check.due("throws of " + it, tree.getThrows().size(), 0);
            check.sentence("LANGUAGE 11");
            check.due("parameters of " + it, it.getParameters().size() <= 7 ? 1 : 0, 1);
            check.due("lines of " + it + ": " + lines(tree), lines(tree) <= 60 ? 1 : 0, 1);
            Element outside = method;
            method = it;
            calls.putIfAbsent(it, new LinkedHashSet<>());
            super.visitMethod(tree, none);
            method = outside;
            return null;
        }

        private long lines(Tree tree) {
            long from = trees.getSourcePositions().getStartPosition(unit, tree);
            long to = trees.getSourcePositions().getEndPosition(unit, tree);
            return to < 0 ? 1 : unit.getLineMap().getLineNumber(to) - unit.getLineMap().getLineNumber(from) + 1;
        }

        @Override
        public Void visitMethodInvocation(MethodInvocationTree tree, Void none) {
            Element called = trees.getElement(getCurrentPath());
            called(called);
            return super.visitMethodInvocation(tree, none);
        }

        @Override
        public Void visitNewClass(NewClassTree tree, Void none) {
            check.sentence("LANGUAGE 2");
            check.due("a class without a name: " + tree, tree.getClassBody() == null ? 0 : 1, 0);
            called(trees.getElement(getCurrentPath()));
            return super.visitNewClass(tree, none);
        }

        private void called(Element element) {
            String of = element.getEnclosingElement().toString();
            check.sentence("LANGUAGE 4");
            if (of.startsWith("GrassBridge")) {
                if (method != null) {
                    calls.get(method).add(element);
                }
            } else if (!of.equals("java.lang.Object") || element.getKind() != ElementKind.CONSTRUCTOR) {
                check.due("call of " + of + "." + element, LIBRARY.contains(of + "." + element) ? 1 : 0, 1);
            }
        }

        @Override
        public Void visitVariable(VariableTree tree, Void none) {
            String type = tree.getType() == null ? "var" : tree.getType().toString();
            String plain = type.replace("[]", "");
            boolean number = plain.equals("int") || plain.equals("boolean");
            int dimensions = (type.length() - plain.length()) / 2;
            check.sentence("LANGUAGE 3");
            check.due("type " + type, number || isOwnClass(plain) ? 1 : 0, 1);
            check.due("dimensions of " + type, dimensions <= 1 ? 1 : 0, 1);
            return super.visitVariable(tree, none);
        }

        private boolean isOwnClass(String name) {
            for (Tree member : ((ClassTree) unit.getTypeDecls().get(0)).getMembers()) {
                if (member instanceof ClassTree inside && inside.getSimpleName().contentEquals(name)) {
                    return true;
                }
            }
            return false;
        }

        @Override
        public Void visitForLoop(ForLoopTree tree, Void none) {
            check.sentence("LANGUAGE 9");
            check.due("a bound of " + tree.getInitializer(), tree.getCondition() == null ? 0 : 1, 1);
            return super.visitForLoop(tree, none);
        }

        @Override
        public Void visitWhileLoop(WhileLoopTree tree, Void none) {
            check.sentence("LANGUAGE 9");
            check.due("a bound of while", tree.getCondition().toString().equals("(true)") ? 0 : 1, 1);
            return super.visitWhileLoop(tree, none);
        }

        @Override
        public Void visitLiteral(LiteralTree tree, Void none) {
            check.sentence("LANGUAGE 10");
            check.due("a text " + tree, tree.getKind() == Tree.Kind.STRING_LITERAL ? 1 : 0, 0);
            return super.visitLiteral(tree, none);
        }
    }
}
