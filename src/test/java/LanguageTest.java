import com.sun.source.tree.AssertTree;
import com.sun.source.tree.BinaryTree;
import com.sun.source.tree.BlockTree;
import com.sun.source.tree.CatchTree;
import com.sun.source.tree.ClassTree;
import com.sun.source.tree.CompilationUnitTree;
import com.sun.source.tree.ImportTree;
import com.sun.source.tree.LambdaExpressionTree;
import com.sun.source.tree.LiteralTree;
import com.sun.source.tree.MemberReferenceTree;
import com.sun.source.tree.MemberSelectTree;
import com.sun.source.tree.MethodInvocationTree;
import com.sun.source.tree.MethodTree;
import com.sun.source.tree.NewClassTree;
import com.sun.source.tree.SynchronizedTree;
import com.sun.source.tree.ThrowTree;
import com.sun.source.tree.Tree;
import com.sun.source.tree.TryTree;
import com.sun.source.tree.VariableTree;
import com.sun.source.tree.WhileLoopTree;
import com.sun.source.util.JavacTask;
import com.sun.source.util.SourcePositions;
import com.sun.source.util.TreeScanner;
import com.sun.source.util.Trees;
import java.nio.file.Path;
import java.util.ArrayList;
import java.util.HashMap;
import java.util.HashSet;
import java.util.List;
import java.util.Map;
import java.util.Set;
import java.util.TreeSet;
import javax.lang.model.element.Modifier;
import javax.tools.JavaCompiler;
import javax.tools.StandardJavaFileManager;
import javax.tools.ToolProvider;

/** The rules of LANGUAGE.md that can be told from the source: each fault is printed with the rule's number. */
public final class LanguageTest extends TreeScanner<Void, Void> {
    private static final Path SOURCE = Path.of("src/main/java/CrossOrName.java");
    private static final Set<String> CONSTANTS = Set.of("BAD", "STATE", "FULL", "NONE");
    private static final Set<String> FACE = Set.of("feed", "end", "land", "fault", "told", "parish", "clerk", "marry", "set",
            "of", "has", "kind", "writer", "apart", "tear", "choose", "many", "share", "best", "pairs", "spared", "learnt",
            "bounds", "tens", "span", "next", "enough", "reading", "unwed", "parts", "worth", "person", "twice", "find",
            "keep", "back", "sheet", "lay", "read", "torn", "count");
    private static final Set<String> LIBRARY = Set.of("length", "charAt", "bitCount", "max", "min", "abs", "arraycopy");

    private final CompilationUnitTree unit;
    private final SourcePositions positions;
    private final Map<String, Set<String>> calls = new HashMap<>();
    private final Set<String> publicMethods = new TreeSet<>();
    private final List<String> otherMethods = new ArrayList<>();
    private String method = "";
    private int depth = 0;
    private int classes = 0;
    private int faults = 0;

    private LanguageTest(CompilationUnitTree unit, SourcePositions positions) {
        this.unit = unit;
        this.positions = positions;
    }

    public static void main(String[] args) throws Exception {
        JavaCompiler compiler = ToolProvider.getSystemJavaCompiler();
        try (StandardJavaFileManager files = compiler.getStandardFileManager(null, null, null)) {
            JavacTask task = (JavacTask) compiler.getTask(null, files, null, null, null, files.getJavaFileObjects(SOURCE));
            CompilationUnitTree unit = task.parse().iterator().next();
            LanguageTest test = new LanguageTest(unit, Trees.instance(task).getSourcePositions());
            test.scan(unit, null);
            test.closing();
            System.out.println("LanguageTest: " + test.faults + " faults");
            System.exit(test.faults == 0 ? 0 : 1);
        }
    }

    private long lineOf(long position) {
        return unit.getLineMap().getLineNumber(position);
    }

    private void fault(int rule, Tree at, String what) {
        faults++;
        long line = at == null ? 0 : lineOf(positions.getStartPosition(unit, at));
        System.out.println("LanguageTest: rule " + rule + ", line " + line + ": " + what);
    }

    private void closing() {
        if (!publicMethods.equals(new TreeSet<>(FACE))) {
            fault(1, null, "the face is " + publicMethods);
        }
        for (String name : otherMethods) {
            if (FACE.contains(name)) {
                fault(1, null, "another method bears the name " + name);
            }
        }
        if (classes > 12) {
            fault(11, null, classes + " classes");
        }
        for (String name : publicMethods) {
            int deep = deepest(name, new HashSet<>());
            if (deep > 8) {
                fault(11, null, name + " goes " + deep + " calls deep");
            }
        }
    }

    /** By names alone: methods of one name count as one, which can only make it deeper than it is. */
    private int deepest(String name, Set<String> open) {
        if (!open.add(name)) {
            fault(8, null, name + " may call itself");
            return 1;
        }
        int most = 0;
        for (String called : calls.getOrDefault(name, Set.of())) {
            most = Math.max(most, deepest(called, open));
        }
        open.remove(name);
        return most + 1;
    }

    @Override
    public Void visitImport(ImportTree tree, Void none) {
        fault(4, tree, "an import");
        return super.visitImport(tree, none);
    }

    @Override
    public Void visitClass(ClassTree tree, Void none) {
        classes++;
        Set<Modifier> modifiers = tree.getModifiers().getFlags();
        if (depth == 0 && !modifiers.containsAll(Set.of(Modifier.PUBLIC, Modifier.FINAL))) {
            fault(1, tree, "the class is not public and final");
        }
        if (depth > 0 && (!modifiers.contains(Modifier.STATIC) || modifiers.contains(Modifier.PUBLIC)
                || modifiers.contains(Modifier.PROTECTED))) {
            fault(1, tree, "a class inside is not static, or is seen from outside");
        }
        int fields = 0;
        for (Tree member : tree.getMembers()) {
            if (member instanceof BlockTree) {
                fault(5, member, "an initialiser block");
            }
            if (member instanceof VariableTree field) {
                fields += field.getModifiers().getFlags().contains(Modifier.STATIC) ? 0 : 1;
                checkField(field);
            }
        }
        if (fields > 20) {
            fault(11, tree, fields + " fields");
        }
        depth++;
        super.visitClass(tree, none);
        depth--;
        return null;
    }

    private void checkField(VariableTree field) {
        Set<Modifier> modifiers = field.getModifiers().getFlags();
        if (modifiers.contains(Modifier.STATIC) && !modifiers.contains(Modifier.FINAL)) {
            fault(5, field, "a static field that is not final");
        }
        boolean hidden = modifiers.contains(Modifier.PRIVATE);
        boolean face = modifiers.contains(Modifier.PUBLIC) && CONSTANTS.contains(field.getName().toString());
        if (depth == 0 && !hidden && !face) {
            fault(1, field, "a field that is seen from outside");
        }
    }

    @Override
    public Void visitMethod(MethodTree tree, Void none) {
        String name = tree.getName().toString();
        Set<Modifier> modifiers = tree.getModifiers().getFlags();
        if (depth == 1 && modifiers.contains(Modifier.PUBLIC) && !name.equals("<init>")) {
            publicMethods.add(name);
        } else {
            otherMethods.add(name);
        }
        if (depth == 1 && !modifiers.contains(Modifier.PUBLIC) && !modifiers.contains(Modifier.PRIVATE)) {
            fault(1, tree, name + " is seen from outside");
        }
        if (tree.getParameters().size() > 7) {
            fault(11, tree, name + " takes more than seven parameters");
        }
        long lines = lineOf(positions.getEndPosition(unit, tree)) - lineOf(positions.getStartPosition(unit, tree)) + 1;
        if (lines > 60) {
            fault(11, tree, name + " has " + lines + " lines");
        }
        method = name;
        return super.visitMethod(tree, none);
    }

    @Override
    public Void visitMethodInvocation(MethodInvocationTree tree, Void none) {
        String text = tree.getMethodSelect().toString();
        String name = text.substring(text.lastIndexOf('.') + 1);
        calls.computeIfAbsent(method, m -> new HashSet<>()).add(name);
        return super.visitMethodInvocation(tree, none);
    }

    @Override
    public Void visitMemberSelect(MemberSelectTree tree, Void none) {
        String of = tree.getExpression().toString();
        String name = tree.getIdentifier().toString();
        if (Set.of("Math", "Integer", "System").contains(of) && !LIBRARY.contains(name)) {
            fault(4, tree, of + "." + name);
        }
        return super.visitMemberSelect(tree, none);
    }

    @Override
    public Void visitBinary(BinaryTree tree, Void none) {
        boolean text = isText(tree.getLeftOperand()) || isText(tree.getRightOperand());
        if (text) {
            fault(10, tree, "texts joined or compared by a sign");
        }
        return super.visitBinary(tree, none);
    }

    private static boolean isText(Tree tree) {
        return tree instanceof LiteralTree literal && literal.getValue() instanceof String;
    }

    @Override
    public Void visitWhileLoop(WhileLoopTree tree, Void none) {
        if (!tree.getCondition().toString().contains("<")) {
            fault(9, tree, "a loop without a bound in its own line");
        }
        return super.visitWhileLoop(tree, none);
    }

    @Override
    public Void visitNewClass(NewClassTree tree, Void none) {
        if (tree.getClassBody() != null) {
            fault(2, tree, "an anonymous class");
        }
        return super.visitNewClass(tree, none);
    }

    @Override
    public Void visitLambdaExpression(LambdaExpressionTree tree, Void none) {
        fault(2, tree, "a lambda");
        return super.visitLambdaExpression(tree, none);
    }

    @Override
    public Void visitMemberReference(MemberReferenceTree tree, Void none) {
        fault(2, tree, "a method reference");
        return super.visitMemberReference(tree, none);
    }

    @Override
    public Void visitThrow(ThrowTree tree, Void none) {
        fault(6, tree, "throw");
        return super.visitThrow(tree, none);
    }

    @Override
    public Void visitTry(TryTree tree, Void none) {
        fault(6, tree, "try");
        return super.visitTry(tree, none);
    }

    @Override
    public Void visitCatch(CatchTree tree, Void none) {
        fault(6, tree, "catch");
        return super.visitCatch(tree, none);
    }

    @Override
    public Void visitSynchronized(SynchronizedTree tree, Void none) {
        fault(6, tree, "synchronized");
        return super.visitSynchronized(tree, none);
    }

    @Override
    public Void visitAssert(AssertTree tree, Void none) {
        fault(6, tree, "assert");
        return super.visitAssert(tree, none);
    }
}
