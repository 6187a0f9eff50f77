import com.sun.source.tree.BinaryTree;
import com.sun.source.tree.BlockTree;
import com.sun.source.tree.ClassTree;
import com.sun.source.tree.CompilationUnitTree;
import com.sun.source.tree.ImportTree;
import com.sun.source.tree.LambdaExpressionTree;
import com.sun.source.tree.LineMap;
import com.sun.source.tree.MemberReferenceTree;
import com.sun.source.tree.MemberSelectTree;
import com.sun.source.tree.MethodInvocationTree;
import com.sun.source.tree.MethodTree;
import com.sun.source.tree.NewClassTree;
import com.sun.source.tree.ThrowTree;
import com.sun.source.tree.Tree;
import com.sun.source.tree.TryTree;
import com.sun.source.tree.VariableTree;
import com.sun.source.util.JavacTask;
import com.sun.source.util.SourcePositions;
import com.sun.source.util.TreePathScanner;
import com.sun.source.util.TreeScanner;
import com.sun.source.util.Trees;
import java.io.IOException;
import java.nio.file.Files;
import java.nio.file.Path;
import java.util.HashMap;
import java.util.HashSet;
import java.util.List;
import java.util.Map;
import java.util.Set;
import java.util.TreeSet;
import javax.lang.model.element.Element;
import javax.lang.model.element.Modifier;
import javax.tools.JavaCompiler;
import javax.tools.StandardJavaFileManager;
import javax.tools.ToolProvider;

/** The rules of LANGUAGE.md that can be seen from the source alone. */
final class LanguageTest extends TreeScanner<Void, Void> {
    private static final Path SOURCE = Path.of("src", "main", "java", "ModHouse.java");
    private static final Set<String> IMPORTS = Set.of("java.util.ArrayList", "java.util.List",
            "java.util.Arrays", "java.util.Iterator", "java.util.NoSuchElementException");
    private static final Set<String> EXCEPTIONS = Set.of("IllegalStateException", "IllegalArgumentException",
            "IndexOutOfBoundsException", "ArithmeticException", "UnsupportedOperationException",
            "NoSuchElementException", "RuntimeException");
    private static final Set<String> CALLS = Set.of("size", "get", "add", "set", "remove", "isEmpty", "clear",
            "max", "min", "abs", "bitCount", "floorMod", "floorDiv", "compare", "length", "charAt", "super");
    private static final int MOST_LINES = 60;
    private static final int MOST_PARAMETERS = 7;
    private static final int MOST_CLASSES = 12;
    private static final int MOST_FIELDS = 20;

    private final Check c;
    private final CompilationUnitTree unit;
    private final SourcePositions positions;
    private final Set<String> declared = new HashSet<>();
    private int classes = 0;
    private boolean isInConstructor = false;

    private LanguageTest(Check c, CompilationUnitTree unit, SourcePositions positions) {
        this.c = c;
        this.unit = unit;
        this.positions = positions;
    }

    static void run(Check c) {
        try {
            String text = Files.readString(SOURCE);
            c.holds("the source holds characters 0 to 127 alone", text.chars().allMatch(i -> i < 128));
            c.holds("the source has no package line", !text.contains("\npackage ") && !text.startsWith("package "));
            JavaCompiler compiler = ToolProvider.getSystemJavaCompiler();
            try (StandardJavaFileManager files = compiler.getStandardFileManager(null, null, null)) {
                JavacTask task = (JavacTask) compiler.getTask(null, files, null, null, null,
                        files.getJavaFileObjects(SOURCE));
                Trees trees = Trees.instance(task);
                for (CompilationUnitTree unit : task.parse()) {
                    task.analyze();
                    new LanguageTest(c, unit, trees.getSourcePositions()).scanAll();
                    c.is("rule 11: calls that go more than eight deep", new Depths(trees, unit).deeperThan(8), "[]");
                }
            }
        } catch (IOException e) {
            c.holds("the source can be read: " + e, false);
        }
    }

    private void scanAll() {
        for (Tree type : unit.getTypeDecls()) {
            new TreeScanner<Void, Void>() {
                @Override
                public Void visitMethod(MethodTree method, Void none) {
                    declared.add(method.getName().toString());
                    return super.visitMethod(method, none);
                }
            }.scan(type, null);
        }
        scan(unit, null);
        c.is("public classes and others of the file", unit.getTypeDecls().size(), 1);
        c.holds("rule 11: some twelve classes", classes <= MOST_CLASSES);
    }

    private String place(Tree tree) {
        LineMap lines = unit.getLineMap();
        return "line " + lines.getLineNumber(positions.getStartPosition(unit, tree)) + ": ";
    }

    /** The methods of the file by which other methods of it each one calls. */
    private static final class Depths extends TreePathScanner<Void, Void> {
        private final Trees trees;
        private final Map<Element, Set<Element>> calls = new HashMap<>();
        private Element caller = null;

        private Depths(Trees trees, CompilationUnitTree unit) {
            this.trees = trees;
            scan(unit, null);
        }

        @Override
        public Void visitMethod(MethodTree tree, Void none) {
            caller = trees.getElement(getCurrentPath());
            calls.put(caller, new HashSet<>());
            return super.visitMethod(tree, none);
        }

        @Override
        public Void visitMethodInvocation(MethodInvocationTree tree, Void none) {
            calls.get(caller).add(trees.getElement(getCurrentPath()));
            return super.visitMethodInvocation(tree, none);
        }

        private String deeperThan(int most) {
            Set<String> deep = new TreeSet<>();
            for (Element method : calls.keySet()) {
                if (depth(method, most + 1) > most) {
                    deep.add(method.toString());
                }
            }
            return deep.toString();
        }

        private int depth(Element method, int left) {
            int deepest = 0;
            for (Element called : left == 0 ? Set.<Element>of() : calls.getOrDefault(method, Set.of())) {
                deepest = Math.max(deepest, depth(called, left - 1));
            }
            return calls.containsKey(method) ? 1 + deepest : 0;
        }
    }

    @Override
    public Void visitImport(ImportTree tree, Void none) {
        c.holds(place(tree) + "rule 4: import", IMPORTS.contains(tree.getQualifiedIdentifier().toString()));
        return super.visitImport(tree, none);
    }

    @Override
    public Void visitClass(ClassTree tree, Void none) {
        classes++;
        int fields = 0;
        for (Tree member : tree.getMembers()) {
            c.holds(place(member) + "rule 5: no static block", !(member instanceof BlockTree));
            if (member instanceof VariableTree) {
                Set<Modifier> modifiers = ((VariableTree) member).getModifiers().getFlags();
                boolean isStatic = modifiers.contains(Modifier.STATIC);
                c.holds(place(member) + "rule 5: static is final", !isStatic || modifiers.contains(Modifier.FINAL));
                fields += isStatic ? 0 : 1;
            }
        }
        c.holds(place(tree) + "rule 11: some twenty fields", fields <= MOST_FIELDS);
        return super.visitClass(tree, none);
    }

    @Override
    public Void visitMethod(MethodTree tree, Void none) {
        LineMap lines = unit.getLineMap();
        long length = lines.getLineNumber(positions.getEndPosition(unit, tree))
                - lines.getLineNumber(positions.getStartPosition(unit, tree)) + 1;
        c.holds(place(tree) + "rule 11: some sixty lines", length <= MOST_LINES);
        c.holds(place(tree) + "rule 11: seven parameters", tree.getParameters().size() <= MOST_PARAMETERS);
        c.holds(place(tree) + "rule 6: no synchronized",
                !tree.getModifiers().getFlags().contains(Modifier.SYNCHRONIZED));
        isInConstructor = tree.getReturnType() == null;
        super.visitMethod(tree, none);
        isInConstructor = false;
        return null;
    }

    @Override
    public Void visitThrow(ThrowTree tree, Void none) {
        boolean isNew = tree.getExpression() instanceof NewClassTree;
        String name = isNew ? ((NewClassTree) tree.getExpression()).getIdentifier().toString() : "";
        c.holds(place(tree) + "rule 6: throw new E", EXCEPTIONS.contains(name));
        c.holds(place(tree) + "rule 6: no throw in a constructor", !isInConstructor);
        return super.visitThrow(tree, none);
    }

    @Override
    public Void visitTry(TryTree tree, Void none) {
        c.holds(place(tree) + "rule 6: no finally", tree.getFinallyBlock() == null);
        c.holds(place(tree) + "rule 6: no resources", tree.getResources().equals(List.of()));
        return super.visitTry(tree, none);
    }

    @Override
    public Void visitMethodInvocation(MethodInvocationTree tree, Void none) {
        Tree select = tree.getMethodSelect();
        String name = select instanceof MemberSelectTree ? ((MemberSelectTree) select).getIdentifier().toString()
                : select.toString();
        c.holds(place(tree) + "rule 4: call of " + name, CALLS.contains(name) || declared.contains(name));
        return super.visitMethodInvocation(tree, none);
    }

    @Override
    public Void visitBinary(BinaryTree tree, Void none) {
        boolean isText = tree.getLeftOperand().getKind() == Tree.Kind.STRING_LITERAL
                || tree.getRightOperand().getKind() == Tree.Kind.STRING_LITERAL;
        c.holds(place(tree) + "rule 10: no joining of texts by +", !isText);
        return super.visitBinary(tree, none);
    }

    @Override
    public Void visitLambdaExpression(LambdaExpressionTree tree, Void none) {
        c.holds(place(tree) + "rule 2: no lambda", false);
        return super.visitLambdaExpression(tree, none);
    }

    @Override
    public Void visitMemberReference(MemberReferenceTree tree, Void none) {
        c.holds(place(tree) + "rule 2: no method reference", false);
        return super.visitMemberReference(tree, none);
    }
}
