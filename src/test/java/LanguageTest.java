import com.sun.source.tree.BlockTree;
import com.sun.source.tree.ClassTree;
import com.sun.source.tree.CompilationUnitTree;
import com.sun.source.tree.ForLoopTree;
import com.sun.source.tree.IdentifierTree;
import com.sun.source.tree.ImportTree;
import com.sun.source.tree.LineMap;
import com.sun.source.tree.MemberSelectTree;
import com.sun.source.tree.MethodInvocationTree;
import com.sun.source.tree.MethodTree;
import com.sun.source.tree.NewArrayTree;
import com.sun.source.tree.NewClassTree;
import com.sun.source.tree.Tree;
import com.sun.source.tree.TypeCastTree;
import com.sun.source.tree.VariableTree;
import com.sun.source.tree.WhileLoopTree;
import com.sun.source.util.JavacTask;
import com.sun.source.util.SourcePositions;
import com.sun.source.util.TreeScanner;
import com.sun.source.util.Trees;
import java.io.File;
import java.util.HashMap;
import java.util.HashSet;
import java.util.Map;
import java.util.Set;
import java.util.TreeSet;
import javax.lang.model.element.Modifier;
import javax.tools.JavaCompiler;
import javax.tools.StandardJavaFileManager;
import javax.tools.ToolProvider;

/** The rules of ../shared/LANGUAGE.md that can be seen from the text of the class; asked from the project's folder. */
public final class LanguageTest extends TreeScanner<Void, Void> {
    private static final String PATH = "src/main/java/WaitedPost.java";
    private static final Set<String> LIBRARY = Set.of("Arrays.fill", "Integer.bitCount", "Math.abs", "Math.max", "Math.min");
    private static final Set<String> CONSTANTS = Set.of("int", "long", "boolean", "char", "String", "int[]", "long[]",
        "char[]", "byte[]");

    // no text is made, so that none is joined by +
    private static final Set<Tree.Kind> NEVER = Set.of(Tree.Kind.THROW, Tree.Kind.TRY, Tree.Kind.SYNCHRONIZED,
        Tree.Kind.ASSERT, Tree.Kind.LAMBDA_EXPRESSION, Tree.Kind.MEMBER_REFERENCE, Tree.Kind.STRING_LITERAL);

    private final Check check = new Check();
    private final CompilationUnitTree unit;
    private final SourcePositions places;
    private final LineMap lines;
    private final Set<String> ownClasses = new TreeSet<>();
    private final Map<String, Set<String>> calls = new HashMap<>();
    private int depth;
    private String method = "";

    private LanguageTest(CompilationUnitTree unit, SourcePositions places) {
        this.unit = unit;
        this.places = places;
        lines = unit.getLineMap();
    }

    public static void main(String[] args) throws Exception {
        JavaCompiler javac = ToolProvider.getSystemJavaCompiler();
        try (StandardJavaFileManager files = javac.getStandardFileManager(null, null, null)) {
            JavacTask task = (JavacTask) javac.getTask(null, files, null, null, null,
                files.getJavaFileObjects(new File(PATH)));
            CompilationUnitTree unit = task.parse().iterator().next();
            LanguageTest test = new LanguageTest(unit, Trees.instance(task).getSourcePositions());
            test.whole();
            test.check.end();
        }
    }

    private void whole() {
        check.promise(PATH);
        check.due("rule 1: no package line", unit.getPackageName() == null);
        check.due("rule 1: one class at the top", unit.getTypeDecls().size(), 1);
        scan(unit, null);
        check.due("rule 11: some twelve classes", ownClasses.size() <= 12);
        for (String name : calls.keySet()) {
            check.due("rules 8 and 11: " + name + " calls no deeper than eight, and never itself", deep(name, 0) <= 8);
        }
    }

    private int deep(String name, int above) {
        if (above > 8 || !calls.containsKey(name)) {
            return above;
        }
        int most = above + 1;
        for (String called : calls.get(name)) {
            most = Math.max(most, deep(called, above + 1));
        }
        return most;
    }

    private long lineOf(Tree tree) {
        return lines.getLineNumber(places.getStartPosition(unit, tree));
    }

    private void rule(String words, Tree tree, boolean holds) {
        check.due("line " + lineOf(tree) + ", rule " + words, holds);
    }

    @Override
    public Void scan(Tree tree, Void none) {
        if (tree != null && NEVER.contains(tree.getKind())) {
            rule("2, 6 or 10: " + tree.getKind(), tree, false);
        }
        return super.scan(tree, none);
    }

    @Override
    public Void visitImport(ImportTree tree, Void none) {
        String name = tree.getQualifiedIdentifier().toString();
        rule("4: import " + name, tree, !tree.isStatic() && Set.of("java.util.Arrays", "java.util.ArrayList",
            "java.util.List", "java.util.Iterator").contains(name));
        return null;
    }

    @Override
    public Void visitClass(ClassTree tree, Void none) {
        Set<Modifier> flags = tree.getModifiers().getFlags();
        ownClasses.add(tree.getSimpleName().toString());
        if (depth > 0) {
            rule("2: a class inside is static", tree, flags.contains(Modifier.STATIC) || tree.getKind() != Tree.Kind.CLASS);
            rule("1: and not open", tree, !flags.contains(Modifier.PUBLIC) && !flags.contains(Modifier.PROTECTED));
            rule("2: and stands in no method", tree, method.isEmpty());
        }
        int fields = 0;
        for (Tree member : tree.getMembers()) {
            if (member instanceof VariableTree) {
                fields += fieldOf((VariableTree) member);
            }
            rule("5: no static block", member, !(member instanceof BlockTree) || !((BlockTree) member).isStatic());
        }
        rule("11: some twenty fields", tree, fields <= 20);
        depth++;
        super.visitClass(tree, none);
        depth--;
        return null;
    }

    /** 1 for a field of an object, 0 for a constant. */
    private int fieldOf(VariableTree field) {
        if (!field.getModifiers().getFlags().contains(Modifier.STATIC)) {
            return 1;
        }
        rule("5: a static field is final", field, field.getModifiers().getFlags().contains(Modifier.FINAL));
        rule("5: and of these types", field, CONSTANTS.contains(field.getType().toString()));
        return 0;
    }

    @Override
    public Void visitMethod(MethodTree tree, Void none) {
        method = tree.getName().toString();
        calls.putIfAbsent(method, new HashSet<>());
        rule("11: seven parameters at most", tree, tree.getParameters().size() <= 7);
        long last = lines.getLineNumber(places.getEndPosition(unit, tree));
        rule("11: some sixty lines", tree, last - lineOf(tree) < 60);
        super.visitMethod(tree, none);
        method = "";
        return null;
    }

    @Override
    public Void visitMethodInvocation(MethodInvocationTree tree, Void none) {
        Tree called = tree.getMethodSelect();
        if (called instanceof IdentifierTree) {
            called(((IdentifierTree) called).getName().toString());
        } else if (called instanceof MemberSelectTree) {
            MemberSelectTree select = (MemberSelectTree) called;
            String of = select.getExpression().toString();
            if (Set.of("Arrays", "Integer", "Long", "Math", "System", "List").contains(of)) {
                rule("4: " + select, tree, LIBRARY.contains(select.toString()));
            } else {
                called(select.getIdentifier().toString());
            }
        }
        return super.visitMethodInvocation(tree, none);
    }

    /** Methods of one name count as one: take copies from an object to another of its class, and calls no other take. */
    private void called(String name) {
        if (!name.equals(method) && calls.containsKey(method)) {
            calls.get(method).add(name);
        } else {
            check.due("rule 8: " + method + " calls itself", false);
        }
    }

    /** More than the rule asks: the room that all calls share is kept by making all in the constructors. */
    private void made(Tree tree) {
        rule("12: made in a constructor or a constant", tree, method.isEmpty() || method.equals("<init>"));
    }

    @Override
    public Void visitNewClass(NewClassTree tree, Void none) {
        made(tree);
        rule("2: no anonymous class", tree, tree.getClassBody() == null);
        return super.visitNewClass(tree, none);
    }

    @Override
    public Void visitNewArray(NewArrayTree tree, Void none) {
        made(tree);
        return super.visitNewArray(tree, none);
    }

    @Override
    public Void visitForLoop(ForLoopTree tree, Void none) {
        rule("9: a loop has an end", tree, tree.getCondition() != null);
        return super.visitForLoop(tree, none);
    }

    @Override
    public Void visitWhileLoop(WhileLoopTree tree, Void none) {
        rule("9: a loop has an end", tree, !tree.getCondition().toString().equals("(true)"));
        return super.visitWhileLoop(tree, none);
    }

    @Override
    public Void visitIdentifier(IdentifierTree tree, Void none) {
        String name = tree.getName().toString();
        boolean isClass = name.matches("[A-Z][A-Za-z]*[a-z][A-Za-z]*");
        boolean isLibrary = Set.of("Arrays", "Integer", "Math").contains(name);
        rule("3: " + name, tree, !isClass || isLibrary || isOwn(name));
        return null;
    }

    private boolean isOwn(String name) {
        for (Tree member : ((ClassTree) unit.getTypeDecls().get(0)).getMembers()) {
            if (member instanceof ClassTree && ((ClassTree) member).getSimpleName().contentEquals(name)) {
                return true;
            }
        }
        return name.equals("WaitedPost");
    }

    @Override
    public Void visitTypeCast(TypeCastTree tree, Void none) {
        rule("6: a cast to int alone", tree, tree.getType().toString().equals("int"));
        return super.visitTypeCast(tree, none);
    }
}
