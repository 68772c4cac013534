import com.sun.source.tree.AssertTree;
import com.sun.source.tree.BinaryTree;
import com.sun.source.tree.BlockTree;
import com.sun.source.tree.CatchTree;
import com.sun.source.tree.ClassTree;
import com.sun.source.tree.CompilationUnitTree;
import com.sun.source.tree.CompoundAssignmentTree;
import com.sun.source.tree.IdentifierTree;
import com.sun.source.tree.ImportTree;
import com.sun.source.tree.LambdaExpressionTree;
import com.sun.source.tree.LiteralTree;
import com.sun.source.tree.MemberReferenceTree;
import com.sun.source.tree.MemberSelectTree;
import com.sun.source.tree.MethodInvocationTree;
import com.sun.source.tree.MethodTree;
import com.sun.source.tree.NewClassTree;
import com.sun.source.tree.SynchronizedTree;
import com.sun.source.tree.ThrowTree;
import com.sun.source.tree.Tree;
import com.sun.source.tree.TryTree;
import com.sun.source.tree.VariableTree;
import com.sun.source.util.JavacTask;
import com.sun.source.util.TreePath;
import com.sun.source.util.TreePathScanner;
import com.sun.source.util.Trees;
import java.io.IOException;
import java.nio.file.Path;
import java.util.HashMap;
import java.util.LinkedHashMap;
import java.util.List;
import java.util.Map;
import java.util.Set;
import java.util.TreeSet;
import javax.lang.model.element.Element;
import javax.lang.model.element.ElementKind;
import javax.lang.model.element.ExecutableElement;
import javax.lang.model.element.Modifier;
import javax.lang.model.element.TypeElement;
import javax.lang.model.type.TypeMirror;
import javax.tools.JavaCompiler;
import javax.tools.StandardJavaFileManager;
import javax.tools.ToolProvider;

/**
 * What of ../shared/LANGUAGE.md can be seen from the tree of the class: rules 1 to 6, 8, 10, 11. (That no index is out of
 * bounds, that each loop ends, how much a run makes: rules 7, 9, 12 are left to the reader.) It is stricter than the
 * rules where the class needs no more: no recursion at all, no exceptions but the two of the face.
 */
public final class LanguageTest {
    private static final Path CLASS = Path.of("src", "main", "java", "BeamSetter.java");
    private static final int MOST_CLASSES = 12;
    private static final int MOST_FIELDS = 20;
    private static final int MOST_PARAMETERS = 7;
    private static final int MOST_LINES = 60;
    private static final int MOST_DEEP = 8;
    private static final Set<String> THROWN = Set.of("java.lang.IndexOutOfBoundsException",
            "java.util.NoSuchElementException");
    private static final Set<String> CONSTANTS = Set.of("int", "long", "boolean", "char", "java.lang.String", "int[]",
            "long[]", "char[]", "byte[]");
    private static final String ROW = "(int|long|short|byte|char|boolean|double|float)(\\[\\]){0,2}|void|java\\.lang\\.String";
    /** What the class may call that isn't its own. */
    private static final Set<String> LIBRARY = Set.of("java.lang.String.length", "java.lang.String.charAt",
            "java.lang.String.isEmpty", "java.lang.String.equals", "java.lang.String.substring", "java.lang.Math.abs",
            "java.lang.Math.max", "java.lang.Math.min", "java.lang.Math.floorDiv", "java.lang.Math.floorMod",
            "java.lang.System.arraycopy", "java.util.Arrays.fill", "java.lang.Object.<init>");

    private final Checks checks = new Checks();
    private Trees trees;
    private CompilationUnitTree unit;
    /** By method: those of the class that it calls. */
    private final Map<String, Set<String>> calls = new LinkedHashMap<>();
    private final Map<String, Integer> depths = new HashMap<>();
    private final Set<String> openMethods = new TreeSet<>();
    private final Set<String> publicNames = new TreeSet<>();
    private final Set<String> hiddenNames = new TreeSet<>();
    private int classes = 0;

    private void wrong(String rule, Tree tree, String words) {
        long at = trees.getSourcePositions().getStartPosition(unit, tree);
        checks.due("rule " + rule + ", line " + unit.getLineMap().getLineNumber(at) + ": " + words, 1, 0);
    }

    private static TypeElement classOf(Element element) {
        Element at = element;
        while (!(at.getKind().isClass() || at.getKind().isInterface())) {
            at = at.getEnclosingElement();
        }
        return (TypeElement) at;
    }

    private static boolean isOwn(Element element) {
        return classOf(element).getQualifiedName().toString().matches("BeamSetter(\\..*)?");
    }

    private static String named(Element method) {
        return classOf(method).getQualifiedName() + "." + method;
    }

    private final class Reader extends TreePathScanner<Void, String> {
        private Element element() {
            return trees.getElement(getCurrentPath());
        }

        // ---- classes, methods, fields

        @Override
        public Void visitImport(ImportTree tree, String in) {
            if (!THROWN.contains(tree.getQualifiedIdentifier().toString()) || tree.isStatic()) {
                wrong("4", tree, "import of " + tree.getQualifiedIdentifier());
            }
            return null;
        }

        @Override
        public Void visitClass(ClassTree tree, String in) {
            classes++;
            Element own = element();
            boolean outer = own.getEnclosingElement().getKind() == ElementKind.PACKAGE;
            if (!outer && !own.getModifiers().contains(Modifier.STATIC)) {
                wrong("2", tree, "a class inside that isn't static: " + own);
            }
            int fields = 0;
            for (Tree member : tree.getMembers()) {
                if (member instanceof BlockTree) {
                    wrong("5", member, "an initialiser block");
                }
                if (member instanceof VariableTree field
                        && !field.getModifiers().getFlags().contains(Modifier.STATIC)) {
                    fields++;
                }
            }
            checks.due("rule 11: fields of " + own + ", no more than " + MOST_FIELDS + ": " + fields, 1,
                    fields <= MOST_FIELDS ? 1 : 0);
            return super.visitClass(tree, own.toString());
        }

        @Override
        public Void visitMethod(MethodTree tree, String in) {
            Element own = element();
            String name = tree.getName().toString();
            calls.putIfAbsent(named(own), new TreeSet<>());
            boolean face = in.equals("BeamSetter") && own.getModifiers().contains(Modifier.PUBLIC);
            if (face) {
                openMethods.add(named(own));
            }
            if (own.getKind() == ElementKind.METHOD) {
                (face ? publicNames : hiddenNames).add(name);
            }
            if (Set.of("equals", "hashCode", "toString").contains(name)) {
                wrong("6", tree, "a method " + name);
            }
            if (tree.getParameters().size() > MOST_PARAMETERS) {
                wrong("11", tree, "more parameters than " + MOST_PARAMETERS);
            }
            long from = trees.getSourcePositions().getStartPosition(unit, tree);
            long to = trees.getSourcePositions().getEndPosition(unit, tree);
            if (unit.getLineMap().getLineNumber(to) - unit.getLineMap().getLineNumber(from) >= MOST_LINES) {
                wrong("11", tree, "more lines than " + MOST_LINES);
            }
            return super.visitMethod(tree, named(own));
        }

        @Override
        public Void visitVariable(VariableTree tree, String in) {
            Element own = element();
            TypeMirror type = own.asType();
            boolean isStatic = own.getModifiers().contains(Modifier.STATIC);
            if (isStatic && !(own.getModifiers().contains(Modifier.FINAL) && CONSTANTS.contains(type.toString()))) {
                wrong("5", tree, "static " + tree.getName());
            }
            if (!type.toString().matches(ROW) && !type.toString().matches("BeamSetter\\.\\w+(\\[\\])?")) {
                wrong("3", tree, "a " + type);
            }
            return super.visitVariable(tree, in);
        }

        // ---- what is called and made

        @Override
        public Void visitMethodInvocation(MethodInvocationTree tree, String in) {
            ExecutableElement called = (ExecutableElement) trees.getElement(
                    new TreePath(getCurrentPath(), tree.getMethodSelect()));
            note(tree, in, called);
            return super.visitMethodInvocation(tree, in);
        }

        @Override
        public Void visitNewClass(NewClassTree tree, String in) {
            Element made = element();
            if (THROWN.contains(classOf(made).toString())) {
                if (!(getCurrentPath().getParentPath().getLeaf() instanceof ThrowTree)) {
                    wrong("6", tree, "an exception that isn't thrown");
                }
            } else {
                note(tree, in, made);
            }
            return super.visitNewClass(tree, in);
        }

        private void note(Tree tree, String in, Element called) {
            if (isOwn(called)) {
                calls.computeIfAbsent(in, k -> new TreeSet<>()).add(named(called));
            } else if (!LIBRARY.contains(classOf(called) + "." + called.getSimpleName())) {
                wrong("4", tree, "call of " + classOf(called) + "." + called);
            }
        }

        private void field(Tree tree) {
            Element used = element();
            if (used != null && used.getKind() == ElementKind.FIELD && !used.getSimpleName().contentEquals("length")
                    && !isOwn(used)) {
                wrong("4", tree, "a field of " + classOf(used));
            }
        }

        @Override
        public Void visitIdentifier(IdentifierTree tree, String in) {
            field(tree);
            return super.visitIdentifier(tree, in);
        }

        @Override
        public Void visitMemberSelect(MemberSelectTree tree, String in) {
            field(tree);
            return super.visitMemberSelect(tree, in);
        }

        // ---- what may not stand there

        @Override
        public Void visitThrow(ThrowTree tree, String in) {
            boolean right = tree.getExpression() instanceof NewClassTree made && (made.getArguments().isEmpty()
                    || made.getArguments().size() == 1 && made.getArguments().get(0) instanceof LiteralTree);
            if (!right || in.contains("<init>") || in.matches(".*\\.BeamSetter\\(.*")) {
                wrong("6", tree, "throw " + tree.getExpression());
            }
            return super.visitThrow(tree, in);
        }

        @Override
        public Void visitTry(TryTree tree, String in) {
            wrong("6", tree, "try");
            return null;
        }

        @Override
        public Void visitCatch(CatchTree tree, String in) {
            wrong("6", tree, "catch");
            return null;
        }

        @Override
        public Void visitSynchronized(SynchronizedTree tree, String in) {
            wrong("6", tree, "synchronized");
            return null;
        }

        @Override
        public Void visitAssert(AssertTree tree, String in) {
            wrong("6", tree, "assert");
            return null;
        }

        @Override
        public Void visitLambdaExpression(LambdaExpressionTree tree, String in) {
            wrong("2", tree, "a lambda");
            return null;
        }

        @Override
        public Void visitMemberReference(MemberReferenceTree tree, String in) {
            wrong("2", tree, "a method reference");
            return null;
        }

        private void joined(Tree tree) {
            TypeMirror type = trees.getTypeMirror(getCurrentPath());
            if (type != null && type.toString().equals("java.lang.String")) {
                wrong("10", tree, "texts joined by +");
            }
        }

        @Override
        public Void visitBinary(BinaryTree tree, String in) {
            joined(tree);
            return super.visitBinary(tree, in);
        }

        @Override
        public Void visitCompoundAssignment(CompoundAssignmentTree tree, String in) {
            joined(tree);
            return super.visitCompoundAssignment(tree, in);
        }

        @Override
        public Void visitLiteral(LiteralTree tree, String in) {
            if (tree.getValue() instanceof String text && !text.chars().allMatch(c -> c >= 1 && c <= 127)) {
                wrong("4", tree, "a sign beyond 127");
            }
            return super.visitLiteral(tree, in);
        }
    }

    // ---- calls one inside another

    /** How many methods stand open at most, this one among them; far too many: one calls itself. */
    private int depth(String method, int open) {
        if (open > 100) {
            return open;
        }
        Integer known = depths.get(method);
        if (known != null) {
            return known;
        }
        int most = 0;
        for (String called : calls.getOrDefault(method, Set.of())) {
            most = Math.max(most, depth(called, open + 1));
        }
        depths.put(method, most + 1);
        return most + 1;
    }

    private void callsAreFlat() {
        checks.due("methods of the face", 37, openMethods.stream().filter(m -> !m.contains(".BeamSetter(")).count());
        for (String method : openMethods) {
            int deep = depth(method, 1);
            checks.due("rule 11: " + method + " goes " + deep + " deep", 1, deep <= MOST_DEEP ? 1 : 0);
        }
    }

    private void check() throws IOException {
        JavaCompiler compiler = ToolProvider.getSystemJavaCompiler();
        if (compiler == null) {
            throw new IllegalStateException("this java has no compiler: it takes a JDK's");
        }
        try (StandardJavaFileManager files = compiler.getStandardFileManager(null, null, null)) {
            JavacTask task = (JavacTask) compiler.getTask(null, files, null, List.of("-proc:none"), null,
                    files.getJavaFileObjects(CLASS));
            unit = task.parse().iterator().next();
            task.analyze();
            trees = Trees.instance(task);
            checks.due("rule 1: a package line", 0, unit.getPackage() == null ? 0 : 1);
            checks.due("rule 1: classes of the file", 1, unit.getTypeDecls().size());
            new Reader().scan(unit, "");
        }
        checks.due("rule 11: classes, no more than " + MOST_CLASSES, 1, classes <= MOST_CLASSES ? 1 : 0);
        Set<String> both = new TreeSet<>(publicNames);
        both.retainAll(hiddenNames);
        checks.due("rule 1: names of public methods that others bear " + both, 0, both.size());
        callsAreFlat();
        checks.end();
    }

    public static void main(String[] args) throws IOException {
        new LanguageTest().check();
    }
}
