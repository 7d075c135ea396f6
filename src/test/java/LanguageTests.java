import com.sun.source.tree.*;
import com.sun.source.util.JavacTask;
import com.sun.source.util.SourcePositions;
import com.sun.source.util.TreePath;
import com.sun.source.util.TreePathScanner;
import com.sun.source.util.Trees;
import java.nio.charset.StandardCharsets;
import java.nio.file.Path;
import java.util.ArrayList;
import java.util.EnumSet;
import java.util.HashSet;
import java.util.LinkedHashMap;
import java.util.LinkedHashSet;
import java.util.List;
import java.util.Map;
import java.util.Set;
import javax.lang.model.element.Element;
import javax.lang.model.element.ElementKind;
import javax.lang.model.element.ExecutableElement;
import javax.lang.model.element.Modifier;
import javax.lang.model.element.TypeElement;
import javax.lang.model.element.VariableElement;
import javax.lang.model.type.TypeKind;
import javax.tools.DiagnosticCollector;
import javax.tools.JavaCompiler;
import javax.tools.JavaFileObject;
import javax.tools.StandardJavaFileManager;
import javax.tools.ToolProvider;

/**
 * The rules of LANGUAGE.md, by number, on the class's source as javac reads it.
 *
 * It is stricter than they are: what the rules allow and the class has no need of (lists, texts,
 * recursion, objects made by calls) is not let in here.
 */
public final class LanguageTests extends TreePathScanner<Void, Void> {
    private static final Path SOURCE = Path.of("src/main/java/RodChimes.java");
    private static final int MOST_LINES = 60, MOST_PARAMETERS = 7, MOST_DEEP = 8, MOST_CLASSES = 12, MOST_FIELDS = 20;

    private static final Set<String> LIBRARY = Set.of("java.lang.Math.max(int,int)", "java.lang.Math.min(int,int)",
        "java.lang.Integer.bitCount(int)");

    private static final Set<Tree.Kind> RULED_OUT = EnumSet.of(Tree.Kind.THROW, Tree.Kind.TRY, Tree.Kind.CATCH,
        Tree.Kind.SYNCHRONIZED, Tree.Kind.ASSERT, Tree.Kind.LAMBDA_EXPRESSION, Tree.Kind.MEMBER_REFERENCE,
        Tree.Kind.INSTANCE_OF, Tree.Kind.BINDING_PATTERN, Tree.Kind.TYPE_CAST, Tree.Kind.WHILE_LOOP,
        Tree.Kind.DO_WHILE_LOOP, Tree.Kind.IMPORT, Tree.Kind.PACKAGE, Tree.Kind.ANNOTATION, Tree.Kind.STRING_LITERAL,
        Tree.Kind.DOUBLE_LITERAL, Tree.Kind.FLOAT_LITERAL);

    private final CompilationUnitTree unit;
    private final Trees trees;
    private final SourcePositions positions;
    private final Map<Element, Set<Element>> calls = new LinkedHashMap<>();
    private final List<TypeElement> classes = new ArrayList<>();
    private Element method;
    private boolean isMaking;

    private LanguageTests(CompilationUnitTree itsUnit, Trees itsTrees) {
        unit = itsUnit;
        trees = itsTrees;
        positions = itsTrees.getSourcePositions();
    }

    public static void main(String[] args) throws Exception {
        JavaCompiler compiler = ToolProvider.getSystemJavaCompiler();
        try (StandardJavaFileManager files = compiler.getStandardFileManager(null, null, StandardCharsets.US_ASCII)) {
            DiagnosticCollector<JavaFileObject> told = new DiagnosticCollector<>();
            JavacTask task = (JavacTask) compiler.getTask(null, files, told, List.of("-proc:none", "-Xlint:all"), null,
                files.getJavaFileObjects(SOURCE));
            CompilationUnitTree unit = task.parse().iterator().next();
            task.analyze();
            Check.holds("javac tells nothing: " + told.getDiagnostics(), told.getDiagnostics().isEmpty());
            LanguageTests tests = new LanguageTests(unit, Trees.instance(task));
            tests.scan(new TreePath(unit), null);
            tests.wholeFile();
        }
        Check.end("LanguageTests");
    }

    private void rule(int number, Tree at, String what, boolean holds) {
        if (!holds) {
            long line = unit.getLineMap().getLineNumber(positions.getStartPosition(unit, at));
            System.out.println("RodChimes.java, line " + line + ", rule " + number + ":");
        }
        Check.holds(what, holds);
    }

    private boolean isOwn(Element element) {
        for (Element e = element; e != null; e = e.getEnclosingElement()) {
            if (e.getKind() == ElementKind.CLASS && e.getSimpleName().contentEquals("RodChimes")) {
                return true;
            }
        }
        return false;
    }

    private Element elementHere() {
        return trees.getElement(getCurrentPath());
    }

    @Override
    public Void scan(Tree tree, Void nothing) {
        if (tree != null) {
            int number = switch (tree.getKind()) {
                case LAMBDA_EXPRESSION, MEMBER_REFERENCE -> 2;
                case WHILE_LOOP, DO_WHILE_LOOP -> 9;
                case IMPORT, PACKAGE, ANNOTATION, STRING_LITERAL, DOUBLE_LITERAL, FLOAT_LITERAL -> 4;
                default -> 6;
            };
            rule(number, tree, "no " + tree.getKind(), !RULED_OUT.contains(tree.getKind()));
        }
        return super.scan(tree, nothing);
    }

    // ---- classes, fields, methods

    @Override
    public Void visitClass(ClassTree tree, Void nothing) {
        TypeElement type = (TypeElement) elementHere();
        classes.add(type);
        boolean isOuter = type.getEnclosingElement().getKind() == ElementKind.PACKAGE;
        Set<Modifier> has = type.getModifiers();
        rule(2, tree, type + " is a class", tree.getKind() == Tree.Kind.CLASS);
        rule(2, tree, type + " is inside and static, or it is the face", isOuter || has.contains(Modifier.STATIC));
        rule(1, tree, type + " is private, or it is the face", isOuter || has.contains(Modifier.PRIVATE));
        rule(1, tree, type + " is final", has.contains(Modifier.FINAL));
        long fields = type.getEnclosedElements().stream().filter(e -> e.getKind() == ElementKind.FIELD)
            .filter(e -> !e.getModifiers().contains(Modifier.STATIC)).count();
        rule(11, tree, type + " has some twenty fields at most: " + fields, fields <= MOST_FIELDS);
        return super.visitClass(tree, nothing);
    }

    @Override
    public Void visitBlock(BlockTree tree, Void nothing) {
        Tree parent = getCurrentPath().getParentPath().getLeaf();
        rule(5, tree, "no block of an initialiser", parent.getKind() != Tree.Kind.CLASS);
        return super.visitBlock(tree, nothing);
    }

    @Override
    public Void visitMethod(MethodTree tree, Void nothing) {
        method = elementHere();
        isMaking = method.getKind() == ElementKind.CONSTRUCTOR;
        calls.put(method, new LinkedHashSet<>());
        rule(11, tree, method + " takes seven parameters at most", tree.getParameters().size() <= MOST_PARAMETERS);
        LineMap lines = unit.getLineMap();
        if (positions.getEndPosition(unit, tree) > 0) {
            long from = lines.getLineNumber(positions.getStartPosition(unit, tree));
            long to = lines.getLineNumber(positions.getEndPosition(unit, tree));
            rule(11, tree, method + " is short: " + (to - from + 1), to - from + 1 <= MOST_LINES);
        }
        rule(3, tree, method + " answers numbers", tree.getReturnType() == null || isPlain(tree.getReturnType().toString()));
        rule(6, tree, method + " throws nothing", tree.getThrows().isEmpty());
        super.visitMethod(tree, nothing);
        method = null;
        isMaking = false;
        return null;
    }

    private static boolean isPlain(String type) {
        return Set.of("void", "int", "long", "boolean").contains(type);
    }

    @Override
    public Void visitVariable(VariableTree tree, Void nothing) {
        String type = tree.getType().toString();
        String element = type.endsWith("[]") ? type.substring(0, type.length() - 2) : type;
        boolean isOwnClass = Set.of("Text", "Rack", "Moment", "Course").contains(element);
        rule(3, tree, tree + " is of numbers or of own classes", isPlain(element) || isOwnClass);
        Element variable = elementHere();
        if (variable.getKind() == ElementKind.FIELD) {
            boolean isStatic = variable.getModifiers().contains(Modifier.STATIC);
            rule(5, tree, tree + " is a constant if it is static",
                !isStatic || ((VariableElement) variable).getConstantValue() != null);
            boolean isPublic = variable.getModifiers().contains(Modifier.PUBLIC);
            rule(1, tree, tree + " is private, or a constant of the face",
                isPublic && isStatic || variable.getModifiers().contains(Modifier.PRIVATE));
            boolean wasMaking = isMaking;
            isMaking = !isStatic;
            super.visitVariable(tree, nothing);
            isMaking = wasMaking;
            return null;
        }
        return super.visitVariable(tree, nothing);
    }

    // ---- calls, and what is made

    @Override
    public Void visitMethodInvocation(MethodInvocationTree tree, Void nothing) {
        ExecutableElement called = (ExecutableElement) trees.getElement(new TreePath(getCurrentPath(), tree.getMethodSelect()));
        boolean isSuper = tree.getMethodSelect().toString().equals("super");
        if (isOwn(called)) {
            rule(12, tree, called + " is called by a method", method != null && !isMaking);
            calls.getOrDefault(method, new HashSet<>()).add(called);
        } else {
            String name = called.getEnclosingElement() + "." + called;
            rule(4, tree, name + " may be called", isSuper || LIBRARY.contains(name));
        }
        return super.visitMethodInvocation(tree, nothing);
    }

    @Override
    public Void visitNewClass(NewClassTree tree, Void nothing) {
        rule(12, tree, tree + " is made by a constructor", isMaking);
        rule(2, tree, tree + " is of an own class with a name", isOwn(elementHere()) && tree.getClassBody() == null);
        return super.visitNewClass(tree, nothing);
    }

    @Override
    public Void visitNewArray(NewArrayTree tree, Void nothing) {
        rule(12, tree, tree + " is made by a constructor", isMaking);
        boolean isConstant = tree.getDimensions().size() == 1 && tree.getInitializers() == null
            && elementIn(tree.getDimensions().get(0)) instanceof VariableElement length
            && length.getConstantValue() != null;
        rule(7, tree, tree + " has a constant for its length", isConstant);
        return super.visitNewArray(tree, nothing);
    }

    private Element elementIn(Tree tree) {
        return trees.getElement(new TreePath(getCurrentPath(), tree));
    }

    /** this may stand ahead of a point alone. */
    @Override
    public Void visitIdentifier(IdentifierTree tree, Void nothing) {
        Tree parent = getCurrentPath().getParentPath().getLeaf();
        rule(12, tree, "this is not handed out", !tree.getName().contentEquals("this") || parent instanceof MemberSelectTree);
        return super.visitIdentifier(tree, nothing);
    }

    // ---- loops, divisions

    /** for (int i = a; i < b ..; i++), or downwards, where nothing else changes i. */
    @Override
    public Void visitForLoop(ForLoopTree tree, Void nothing) {
        boolean isCounted = tree.getInitializer().size() == 1
            && tree.getInitializer().get(0) instanceof VariableTree && tree.getUpdate().size() == 1;
        rule(9, tree, "a loop has one counter", isCounted);
        if (isCounted) {
            String counter = ((VariableTree) tree.getInitializer().get(0)).getName().toString();
            String update = tree.getUpdate().get(0).getExpression().toString();
            String condition = String.valueOf(tree.getCondition());
            boolean up = update.equals(counter + "++") && condition.matches("\\(?" + counter + " <=? .*");
            boolean down = update.equals(counter + "--") && condition.matches(counter + " > 1");
            rule(9, tree, condition + "; " + update + " has an end", (up || down) && !condition.contains("||"));
            rule(9, tree, counter + " is changed by the loop alone", !changedIn(tree.getStatement()).contains(counter));
        }
        return super.visitForLoop(tree, nothing);
    }

    private static Set<String> changedIn(Tree tree) {
        Set<String> changed = new HashSet<>();
        new com.sun.source.util.TreeScanner<Void, Void>() {
            @Override
            public Void visitAssignment(AssignmentTree t, Void nothing) {
                changed.add(t.getVariable().toString());
                return super.visitAssignment(t, nothing);
            }

            @Override
            public Void visitCompoundAssignment(CompoundAssignmentTree t, Void nothing) {
                changed.add(t.getVariable().toString());
                return super.visitCompoundAssignment(t, nothing);
            }

            @Override
            public Void visitUnary(UnaryTree t, Void nothing) {
                changed.add(t.getExpression().toString());
                return super.visitUnary(t, nothing);
            }
        }.scan(tree, null);
        return changed;
    }

    /** A divisor is a number that is not 0, a loop's counter above 1, or greatestShared's answer. */
    @Override
    public Void visitBinary(BinaryTree tree, Void nothing) {
        if (tree.getKind() == Tree.Kind.DIVIDE || tree.getKind() == Tree.Kind.REMAINDER) {
            String divisor = tree.getRightOperand().toString();
            rule(7, tree, tree + " has a divisor that is not 0", Set.of("2", "12", "by", "shared").contains(divisor));
        }
        rule(10, tree, tree + " joins no texts", trees.getTypeMirror(getCurrentPath()).getKind() != TypeKind.DECLARED);
        return super.visitBinary(tree, nothing);
    }

    // ---- the whole

    private void wholeFile() {
        Check.due("one class outside, rule 1", 1, unit.getTypeDecls().size());
        Check.holds("some twelve classes at most, rule 11: " + classes.size(), classes.size() <= MOST_CLASSES);
        Set<String> publicNames = new HashSet<>();
        for (Element m : calls.keySet()) {
            if (m.getModifiers().contains(Modifier.PUBLIC)) {
                publicNames.add(m.getSimpleName().toString());
            }
        }
        int deepest = 0;
        for (Element m : calls.keySet()) {
            boolean isConstructor = m.getKind() == ElementKind.CONSTRUCTOR;
            Check.holds(m + " is private and bears no public name, rule 1", isConstructor
                || m.getModifiers().contains(Modifier.PUBLIC) || !publicNames.contains(m.getSimpleName().toString()));
            deepest = Math.max(deepest, depth(m, new HashSet<>()));
        }
        Check.holds("calls go at most eight deep, rule 11: " + deepest, deepest <= MOST_DEEP);
    }

    private int depth(Element from, Set<Element> open) {
        boolean isNew = open.add(from);
        Check.holds(from + " does not call itself, rule 8", isNew);
        int deepest = 0;
        if (isNew) {
            for (Element called : calls.getOrDefault(from, Set.of())) {
                deepest = Math.max(deepest, depth(called, open));
            }
            open.remove(from);
        }
        return deepest + 1;
    }
}
