import com.sun.source.tree.AnnotationTree;
import com.sun.source.tree.BlockTree;
import com.sun.source.tree.ClassTree;
import com.sun.source.tree.CompilationUnitTree;
import com.sun.source.tree.MethodInvocationTree;
import com.sun.source.tree.MethodTree;
import com.sun.source.tree.NewClassTree;
import com.sun.source.tree.Tree;
import com.sun.source.tree.VariableTree;
import com.sun.source.util.JavacTask;
import com.sun.source.util.TreePath;
import com.sun.source.util.TreePathScanner;
import com.sun.source.util.Trees;
import java.io.IOException;
import java.util.EnumSet;
import java.util.HashMap;
import java.util.HashSet;
import java.util.List;
import java.util.Map;
import java.util.Set;
import java.util.TreeSet;
import javax.lang.model.element.Element;
import javax.lang.model.element.ElementKind;
import javax.lang.model.element.Modifier;
import javax.lang.model.element.VariableElement;
import javax.tools.JavaCompiler;
import javax.tools.StandardJavaFileManager;
import javax.tools.ToolProvider;

/**
 * The program keeps to those rules of LANGUAGE.md that its tree can tell. Where a rule allows more than the program
 * uses, only what it uses is let through: what comes anew is to be held against the rule first.
 */
public final class LanguageTest {
    private static final String PROGRAM = "src/main/java/WordEvidence.java";
    private static final Set<String> LIBRARY = Set.of("java.lang.Math.max(int,int)", "java.lang.Math.min(int,int)",
            "java.util.Arrays.copyOf(long[],int)", "java.util.Arrays.fill(long[],long)");
    private static final Set<String> TYPES = Set.of("int", "long", "char", "boolean", "int[]", "long[]", "int[][]",
            "Text", "Document", "Document[]", "Shelf", "Log", "Chances", "Product");
    private static final Set<Tree.Kind> REFUSED = EnumSet.of(Tree.Kind.LAMBDA_EXPRESSION, Tree.Kind.MEMBER_REFERENCE,
            Tree.Kind.THROW, Tree.Kind.TRY, Tree.Kind.ASSERT, Tree.Kind.SYNCHRONIZED, Tree.Kind.INSTANCE_OF,
            Tree.Kind.TYPE_CAST, Tree.Kind.PACKAGE, Tree.Kind.STRING_LITERAL, Tree.Kind.DO_WHILE_LOOP,
            Tree.Kind.DIVIDE, Tree.Kind.REMAINDER, Tree.Kind.DIVIDE_ASSIGNMENT, Tree.Kind.REMAINDER_ASSIGNMENT);
    // The divisor is a constant, and the casts are among numbers.
    private static final Set<String> LET_THROUGH = Set.of("(wordCount + WORDS_IN_A_BLOCK - 1) / WORDS_IN_A_BLOCK",
            "(long)code", "(int)(word >>> (CODE_BITS * i))");
    private static final Check CHECK = new Check();

    private final Map<Element, Set<Element>> calls = new HashMap<>();
    private final Set<String> publicNames = new HashSet<>();
    private final Set<String> privateNames = new TreeSet<>();
    private int classes = 0;

    private static void due(String what, boolean got) {
        CHECK.due(what, got, true);
    }

    /** Looks at each node of the program. */
    private final class Look extends TreePathScanner<Void, Element> {
        private final Trees trees;
        private final CompilationUnitTree unit;

        Look(Trees trees, CompilationUnitTree unit) {
            this.trees = trees;
            this.unit = unit;
        }

        private Element here() {
            return trees.getElement(getCurrentPath());
        }

        private long lineAt(long position) {
            return unit.getLineMap().getLineNumber(position);
        }

        @Override
        public Void scan(Tree tree, Element within) {
            if (tree != null && REFUSED.contains(tree.getKind())) {
                due("no " + tree.getKind() + " as " + tree, LET_THROUGH.contains(tree.toString()));
            }
            return super.scan(tree, within);
        }

        @Override
        public Void visitClass(ClassTree tree, Element within) {
            Element self = here();
            classes++;
            boolean inside = self.getEnclosingElement().getKind() == ElementKind.CLASS;
            due("2: a class " + tree.getSimpleName(), self.getKind() == ElementKind.CLASS);
            due("1: final " + tree.getSimpleName(), self.getModifiers().contains(Modifier.FINAL));
            due("1: private and static, or the face " + tree.getSimpleName(), !inside
                    || self.getModifiers().containsAll(Set.of(Modifier.PRIVATE, Modifier.STATIC)));
            long fields = tree.getMembers().stream().filter(member -> member instanceof VariableTree variable
                    && !variable.getModifiers().getFlags().contains(Modifier.STATIC)).count();
            due("11: at most twenty fields in " + tree.getSimpleName(), fields <= 20);
            due("5: no initialiser block in " + tree.getSimpleName(),
                    tree.getMembers().stream().noneMatch(member -> member instanceof BlockTree));
            return super.visitClass(tree, within);
        }

        @Override
        public Void visitMethod(MethodTree tree, Element within) {
            Element self = here();
            calls.putIfAbsent(self, new HashSet<>());
            if (self.getModifiers().contains(Modifier.PUBLIC)) {
                publicNames.add(tree.getName().toString());
            } else if (self.getModifiers().contains(Modifier.PRIVATE)) {
                privateNames.add(tree.getName().toString());
            }
            long first = lineAt(trees.getSourcePositions().getStartPosition(unit, tree));
            long last = lineAt(trees.getSourcePositions().getEndPosition(unit, tree));
            due("11: at most sixty lines in " + tree.getName(), last - first < 60);
            due("11: at most seven parameters of " + tree.getName(), tree.getParameters().size() <= 7);
            return super.visitMethod(tree, self);
        }

        @Override
        public Void visitVariable(VariableTree tree, Element within) {
            Element self = here();
            String type = self.asType().toString().replace("WordEvidence.", "");
            due("3: the type " + type + " of " + tree.getName(), TYPES.contains(type));
            if (self.getModifiers().contains(Modifier.STATIC)) {
                due("5: a constant " + tree.getName(), ((VariableElement) self).getConstantValue() != null);
            }
            return super.visitVariable(tree, within);
        }

        @Override
        public Void visitMethodInvocation(MethodInvocationTree tree, Element within) {
            noteCall(trees.getElement(new TreePath(getCurrentPath(), tree.getMethodSelect())), within);
            return super.visitMethodInvocation(tree, within);
        }

        @Override
        public Void visitNewClass(NewClassTree tree, Element within) {
            due("2: no anonymous class", tree.getClassBody() == null);
            noteCall(here(), within);
            return super.visitNewClass(tree, within);
        }

        @Override
        public Void visitAnnotation(AnnotationTree tree, Element within) {
            due("4: no annotation " + tree, false);
            return super.visitAnnotation(tree, within);
        }

        private void noteCall(Element called, Element within) {
            String owner = called.getEnclosingElement().toString();
            boolean own = owner.equals("WordEvidence") || owner.startsWith("WordEvidence.");
            String name = owner + "." + called;
            boolean madeByJavac = name.equals("java.lang.Object.Object()");
            due("4: the call of " + name, own || madeByJavac || LIBRARY.contains(name));
            if (within != null && !madeByJavac) {
                calls.computeIfAbsent(within, caller -> new HashSet<>()).add(called);
            }
        }
    }

    /** How many calls stand open at once when this one is made; it refuses a method that is open already. */
    private int depth(Element method, Set<Element> open) {
        if (!open.add(method)) {
            due("8: no recursion of " + method, false);
            return 0;
        }
        int deepest = 0;
        for (Element called : calls.getOrDefault(method, Set.of())) {
            deepest = Math.max(deepest, depth(called, open));
        }
        open.remove(method);
        return deepest + 1;
    }

    private void dueInAll() {
        due("the face is found", publicNames.contains("classify"));
        due("11: at most twelve classes, not " + classes, classes > 0 && classes <= 12);
        privateNames.retainAll(publicNames);
        privateNames.remove("<init>");
        due("1: no private method bears the name of a public one, as " + privateNames, privateNames.isEmpty());
        for (Element method : calls.keySet()) {
            int depth = depth(method, new HashSet<>());
            due("11: at most eight calls deep, not " + depth + " as " + method, depth <= 8);
        }
    }

    public static void main(String[] args) throws IOException {
        JavaCompiler compiler = ToolProvider.getSystemJavaCompiler();
        LanguageTest test = new LanguageTest();
        try (StandardJavaFileManager files = compiler.getStandardFileManager(null, null, null)) {
            JavacTask task = (JavacTask) compiler.getTask(null, files, null, null, null,
                    files.getJavaFileObjects(PROGRAM));
            Iterable<? extends CompilationUnitTree> units = task.parse();
            task.analyze();
            for (CompilationUnitTree unit : units) {
                List<String> imports = unit.getImports().stream().map(line -> line.toString().trim()).toList();
                CHECK.due("4: the imports", imports.toString(), "[import java.util.Arrays;]");
                test.new Look(Trees.instance(task), unit).scan(unit, null);
            }
        }
        test.dueInAll();
        CHECK.end();
    }
}
