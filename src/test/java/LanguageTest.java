import com.sun.source.tree.AssertTree;
import com.sun.source.tree.BinaryTree;
import com.sun.source.tree.BlockTree;
import com.sun.source.tree.ClassTree;
import com.sun.source.tree.CompilationUnitTree;
import com.sun.source.tree.CompoundAssignmentTree;
import com.sun.source.tree.ExpressionTree;
import com.sun.source.tree.ImportTree;
import com.sun.source.tree.InstanceOfTree;
import com.sun.source.tree.LambdaExpressionTree;
import com.sun.source.tree.LiteralTree;
import com.sun.source.tree.MemberReferenceTree;
import com.sun.source.tree.MethodInvocationTree;
import com.sun.source.tree.MethodTree;
import com.sun.source.tree.NewArrayTree;
import com.sun.source.tree.NewClassTree;
import com.sun.source.tree.SwitchExpressionTree;
import com.sun.source.tree.SynchronizedTree;
import com.sun.source.tree.ThrowTree;
import com.sun.source.tree.Tree;
import com.sun.source.tree.TryTree;
import com.sun.source.tree.TypeCastTree;
import com.sun.source.tree.VariableTree;
import com.sun.source.util.JavacTask;
import com.sun.source.util.SourcePositions;
import com.sun.source.util.TreePath;
import com.sun.source.util.TreePathScanner;
import com.sun.source.util.Trees;
import java.io.File;
import java.io.IOException;
import java.util.ArrayList;
import java.util.List;
import java.util.Map;
import java.util.Set;
import java.util.TreeMap;
import java.util.TreeSet;
import javax.lang.model.element.Element;
import javax.lang.model.element.ElementKind;
import javax.lang.model.element.ExecutableElement;
import javax.lang.model.element.Modifier;
import javax.tools.JavaCompiler;
import javax.tools.StandardJavaFileManager;
import javax.tools.ToolProvider;

/**
 * The rules of LANGUAGE.md that can be counted in the class's text, read by javac's own parser.
 * Narrower than the rules where the class needs less: a feature it comes to use is let in here.
 */
public final class LanguageTest {
    private static final String FILE = "src/main/java/KnifeLedger.java";
    private static final Set<String> TYPES =
            Set.of("int", "long", "double", "boolean", "int[]", "boolean[]", "KnifeLedger.Reckoning");
    private static final Set<String> CONSTANT_TYPES = Set.of("int", "long", "boolean", "char");
    private static final Set<String> LIBRARY = Set.of("java.lang.Math.max", "java.lang.Math.min");
    private static final Set<String> EXCEPTIONS = Set.of("java.lang.IllegalStateException",
            "java.lang.IllegalArgumentException", "java.lang.IndexOutOfBoundsException");
    private static final Check check = new Check();

    public static void main(String[] args) throws IOException {
        Facts facts = read();
        check.runs(
                () -> face(facts), () -> classesInside(facts), () -> types(facts),
                () -> library(facts), () -> staticFields(facts), () -> exceptions(facts),
                () -> recursion(facts), () -> texts(facts), () -> sizes(facts), () -> depth(facts),
                () -> objects(facts));
    }

    private static Facts read() throws IOException {
        JavaCompiler compiler = ToolProvider.getSystemJavaCompiler();
        Facts facts = new Facts();
        try (StandardJavaFileManager files = compiler.getStandardFileManager(null, null, null)) {
            JavacTask task = (JavacTask) compiler.getTask(null, files, null,
                    List.of("--release", "17", "-proc:none"), null,
                    files.getJavaFileObjects(new File(FILE)));
            facts.trees = Trees.instance(task);
            for (CompilationUnitTree unit : task.parse()) {
                task.analyze();
                facts.scan(unit, null);
            }
        }
        return facts;
    }

    private static void none(String what, List<String> found) {
        check.is(what + " " + found, 0, found.size());
    }

    private static void onlyOf(String what, Set<String> allowed, Set<String> found) {
        for (String one : found) {
            check.isTrue(what + " " + one, allowed.contains(one));
        }
    }

    private static void face(Facts facts) {
        check.sentence("Rule 1", "No private method bears the name of a public one.");
        Set<String> both = new TreeSet<>(facts.publicNames);
        both.retainAll(facts.privateNames);
        none("both public and private", new ArrayList<>(both));
        none("beside the face, and not private", facts.openMembers);
    }

    private static void classesInside(Facts facts) {
        check.sentence("Rules 1 and 2", "the classes inside it, which are private or package-visible"
                + " and static");
        none("not so", facts.openClasses);
        none("lambdas, method references and the like", facts.forbidden);
    }

    private static void types(Facts facts) {
        check.sentence("Rule 3", "Types: ..");
        onlyOf("a variable of", TYPES, facts.variableTypes);
        none("casts to what is no number", facts.casts);
    }

    private static void library(Facts facts) {
        check.sentence("Rule 4", "The library: only what stands here.");
        onlyOf("a call of", LIBRARY, facts.libraryCalls);
        none("imports", facts.imports);
    }

    private static void staticFields(Facts facts) {
        check.sentence("Rule 5", "Static fields are final: .. No other static state, no static"
                + " initialiser block.");
        none("not so", facts.staticState);
    }

    private static void exceptions(Facts facts) {
        check.sentence("Rule 6", "Exceptions: throw new E() or throw new E(\"a written text\") .."
                + " no throw in a constructor.");
        none("not so", facts.oddThrows);
        onlyOf("thrown is", EXCEPTIONS, facts.thrown);
    }

    private static void recursion(Facts facts) {
        check.sentence("Rules 8 and 11", "a private static method that calls itself, ..");
        for (String method : facts.calls.keySet()) {
            // No way through the methods is longer than all of them, but for one that goes round.
            check.isTrue(method + " calls itself", facts.deepest(method) <= facts.calls.size() + 1);
        }
    }

    private static void texts(Facts facts) {
        check.sentence("Rule 10", "joining texts by StringBuilder (not by +)");
        none("joined by +", facts.joins);
    }

    private static void sizes(Facts facts) {
        check.sentence("Rule 11", "A method takes at most seven parameters. Methods stay short (some"
                + " sixty lines) .. the file has at most some twelve classes, and a class some twenty"
                + " fields beside its constants.");
        for (Map.Entry<String, Integer> one : facts.parameters.entrySet()) {
            check.isTrue(one + " parameters", one.getValue() <= 7);
        }
        for (Map.Entry<String, Integer> one : facts.lines.entrySet()) {
            check.isTrue(one + " lines", one.getValue() <= 60);
        }
        for (Map.Entry<String, Integer> one : facts.fields.entrySet()) {
            check.isTrue(one + " fields", one.getValue() <= 20);
        }
        check.isTrue(facts.fields.size() + " classes", facts.fields.size() <= 12);
    }

    private static void depth(Facts facts) {
        check.sentence("Rule 11", "calls that are no recursion go at most eight deep");
        for (String method : facts.calls.keySet()) {
            check.isTrue(facts.deepest(method) + " deep from " + method, facts.deepest(method) <= 8);
        }
        check.isTrue("digest() asks count()", facts.deepest("KnifeLedger.digest")
                > facts.deepest("KnifeLedger.count"));
    }

    private static void objects(Facts facts) {
        check.sentence("Rule 12", "What a run makes is counted");
        none("made by a call", facts.made);
    }

    /** What the text of the class holds, gathered in one walk. */
    private static final class Facts extends TreePathScanner<Void, Void> {
        private Trees trees;
        private final Set<String> publicNames = new TreeSet<>();
        private final Set<String> privateNames = new TreeSet<>();
        private final List<String> openMembers = new ArrayList<>();
        private final List<String> openClasses = new ArrayList<>();
        private final List<String> forbidden = new ArrayList<>();
        private final Set<String> variableTypes = new TreeSet<>();
        private final List<String> casts = new ArrayList<>();
        private final Set<String> libraryCalls = new TreeSet<>();
        private final List<String> imports = new ArrayList<>();
        private final List<String> staticState = new ArrayList<>();
        private final List<String> oddThrows = new ArrayList<>();
        private final Set<String> thrown = new TreeSet<>();
        private final List<String> joins = new ArrayList<>();
        private final List<String> made = new ArrayList<>();
        private final Map<String, Integer> parameters = new TreeMap<>();
        private final Map<String, Integer> lines = new TreeMap<>();
        private final Map<String, Integer> fields = new TreeMap<>();
        private final Map<String, Set<String>> calls = new TreeMap<>();
        private String method = "";
        private boolean inConstructor = false;

        private Element element(Tree tree) {
            return trees.getElement(new TreePath(getCurrentPath(), tree));
        }

        private String type(Tree tree) {
            return trees.getTypeMirror(new TreePath(getCurrentPath(), tree)).toString();
        }

        private static String named(Element element) {
            return element.getEnclosingElement() + "." + element.getSimpleName();
        }

        /** How deep calls go from here, this one and the library's counted. */
        private int deepest(String from) {
            return deepest(from, 0);
        }

        private int deepest(String from, int above) {
            int most = 0;
            if (above <= calls.size()) {
                for (String called : calls.getOrDefault(from, Set.of())) {
                    most = Math.max(most, deepest(called, above + 1));
                }
            }
            return 1 + most;
        }

        @Override
        public Void visitImport(ImportTree tree, Void none) {
            imports.add(tree.toString());
            return super.visitImport(tree, none);
        }

        @Override
        public Void visitClass(ClassTree tree, Void none) {
            Element one = trees.getElement(getCurrentPath());
            Set<Modifier> modifiers = one.getModifiers();
            boolean inside = one.getEnclosingElement().getKind().isClass();
            boolean open = modifiers.contains(Modifier.PUBLIC) || modifiers.contains(Modifier.PROTECTED);
            if (inside && (open || !modifiers.contains(Modifier.STATIC))) {
                openClasses.add(one.toString());
            }
            int own = 0;
            for (Element member : one.getEnclosedElements()) {
                own += member.getKind() == ElementKind.FIELD
                        && !member.getModifiers().contains(Modifier.STATIC) ? 1 : 0;
            }
            fields.put(one.toString(), own);
            return super.visitClass(tree, none);
        }

        @Override
        public Void visitMethod(MethodTree tree, Void none) {
            Element one = trees.getElement(getCurrentPath());
            boolean open = one.getModifiers().contains(Modifier.PUBLIC);
            String outer = method;
            boolean outerConstructor = inConstructor;
            method = named(one);
            inConstructor = one.getKind() == ElementKind.CONSTRUCTOR;
            if (!inConstructor) {
                (open ? publicNames : privateNames).add(one.getSimpleName().toString());
                if (!open && !one.getModifiers().contains(Modifier.PRIVATE)) {
                    openMembers.add(method);
                }
                // Methods that share a name would count as one, which is no less deep.
                calls.putIfAbsent(method, new TreeSet<>());
                lines.merge(method, linesOf(tree), Math::max);
            }
            parameters.merge(method, tree.getParameters().size(), Math::max);
            super.visitMethod(tree, none);
            method = outer;
            inConstructor = outerConstructor;
            return null;
        }

        private int linesOf(Tree tree) {
            CompilationUnitTree unit = getCurrentPath().getCompilationUnit();
            SourcePositions at = trees.getSourcePositions();
            long first = unit.getLineMap().getLineNumber(at.getStartPosition(unit, tree));
            long last = unit.getLineMap().getLineNumber(at.getEndPosition(unit, tree));
            return (int) (last - first + 1);
        }

        @Override
        public Void visitVariable(VariableTree tree, Void none) {
            Element one = trees.getElement(getCurrentPath());
            Set<Modifier> modifiers = one.getModifiers();
            variableTypes.add(one.asType().toString());
            if (one.getKind() == ElementKind.FIELD && !modifiers.contains(Modifier.PRIVATE)) {
                openMembers.add(named(one));
            }
            boolean constant = modifiers.contains(Modifier.FINAL)
                    && CONSTANT_TYPES.contains(one.asType().toString());
            if (modifiers.contains(Modifier.STATIC) && !constant) {
                staticState.add(named(one));
            }
            return super.visitVariable(tree, none);
        }

        @Override
        public Void visitBlock(BlockTree tree, Void none) {
            if (tree.isStatic()) {
                staticState.add(tree.toString());
            }
            return super.visitBlock(tree, none);
        }

        @Override
        public Void visitMethodInvocation(MethodInvocationTree tree, Void none) {
            ExecutableElement called = (ExecutableElement) element(tree.getMethodSelect());
            boolean constructor = called.getKind() == ElementKind.CONSTRUCTOR;
            if (!constructor) {
                calls.computeIfAbsent(method, key -> new TreeSet<>()).add(named(called));
            }
            if (!constructor && !named(called).startsWith("KnifeLedger")) {
                libraryCalls.add(named(called));
            }
            return super.visitMethodInvocation(tree, none);
        }

        @Override
        public Void visitThrow(ThrowTree tree, Void none) {
            ExpressionTree what = tree.getExpression();
            boolean plain = what instanceof NewClassTree made && made.getArguments().stream()
                    .allMatch(text -> text instanceof LiteralTree);
            if (!plain || inConstructor) {
                oddThrows.add(tree.toString());
            }
            thrown.add(type(what));
            // Not walked further: the exception is the one object that a call may make.
            return null;
        }

        @Override
        public Void visitNewClass(NewClassTree tree, Void none) {
            if (!method.isEmpty()) {
                made.add(tree + " in " + method);
            }
            return super.visitNewClass(tree, none);
        }

        @Override
        public Void visitNewArray(NewArrayTree tree, Void none) {
            if (!method.isEmpty()) {
                made.add(tree + " in " + method);
            }
            return super.visitNewArray(tree, none);
        }

        @Override
        public Void visitTypeCast(TypeCastTree tree, Void none) {
            if (!Set.of("int", "long", "double").contains(type(tree.getType()))) {
                casts.add(tree.toString());
            }
            return super.visitTypeCast(tree, none);
        }

        @Override
        public Void visitBinary(BinaryTree tree, Void none) {
            if (type(tree.getLeftOperand()).equals("java.lang.String")
                    || type(tree.getRightOperand()).equals("java.lang.String")) {
                joins.add(tree.toString());
            }
            return super.visitBinary(tree, none);
        }

        @Override
        public Void visitCompoundAssignment(CompoundAssignmentTree tree, Void none) {
            if (type(tree.getVariable()).equals("java.lang.String")) {
                joins.add(tree.toString());
            }
            return super.visitCompoundAssignment(tree, none);
        }

        private Void isForbidden(Tree tree) {
            forbidden.add(tree.toString());
            return null;
        }

        @Override
        public Void visitLambdaExpression(LambdaExpressionTree tree, Void none) {
            return isForbidden(tree);
        }

        @Override
        public Void visitMemberReference(MemberReferenceTree tree, Void none) {
            return isForbidden(tree);
        }

        @Override
        public Void visitTry(TryTree tree, Void none) {
            return isForbidden(tree);
        }

        @Override
        public Void visitSynchronized(SynchronizedTree tree, Void none) {
            return isForbidden(tree);
        }

        @Override
        public Void visitAssert(AssertTree tree, Void none) {
            return isForbidden(tree);
        }

        @Override
        public Void visitSwitchExpression(SwitchExpressionTree tree, Void none) {
            return isForbidden(tree);
        }

        @Override
        public Void visitInstanceOf(InstanceOfTree tree, Void none) {
            return isForbidden(tree);
        }
    }
}
