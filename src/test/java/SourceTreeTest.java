import com.sun.source.tree.BinaryTree;
import com.sun.source.tree.ClassTree;
import com.sun.source.tree.CompilationUnitTree;
import com.sun.source.tree.ForLoopTree;
import com.sun.source.tree.IdentifierTree;
import com.sun.source.tree.MemberSelectTree;
import com.sun.source.tree.MethodTree;
import com.sun.source.tree.NewClassTree;
import com.sun.source.tree.Tree;
import com.sun.source.tree.VariableTree;
import com.sun.source.util.JavacTask;
import com.sun.source.util.TreePath;
import com.sun.source.util.TreePathScanner;
import com.sun.source.util.Trees;
import java.io.IOException;
import java.nio.file.Path;
import java.util.ArrayList;
import java.util.EnumSet;
import java.util.HashMap;
import java.util.HashSet;
import java.util.List;
import java.util.Map;
import java.util.Set;
import java.util.TreeSet;
import javax.lang.model.element.Element;
import javax.lang.model.element.ElementKind;
import javax.lang.model.element.ExecutableElement;
import javax.lang.model.element.Modifier;
import javax.lang.model.element.TypeElement;
import javax.lang.model.type.ArrayType;
import javax.lang.model.type.TypeKind;
import javax.lang.model.type.TypeMirror;
import javax.tools.JavaCompiler;
import javax.tools.StandardJavaFileManager;
import javax.tools.ToolProvider;

/** LANGUAGE.md by the tree that the compiler makes of the source: its library, types, static fields, loops, how deep calls go. */
public final class SourceTreeTest extends TreePathScanner<Void, Void> {
    private static final int MOST_DEEP = 8, MOST_PARAMETERS = 7, MOST_LINES = 60, MOST_CLASSES = 12, MOST_FIELDS = 20;
    private static final Set<String> LIBRARY = Set.of("String.length", "String.charAt", "String.isEmpty", "String.indexOf", "String.substring",
        "String.toCharArray", "Arrays.fill", "Arrays.copyOf", "Arrays.copyOfRange", "System.arraycopy", "Math.max", "Math.min", "Math.abs",
        "Math.floorDiv", "Math.floorMod", "Integer.bitCount", "Long.bitCount", "Integer.compare", "Long.compare", "Object.<init>");
    private static final Set<Tree.Kind> RULED_OUT = EnumSet.of(Tree.Kind.THROW, Tree.Kind.TRY, Tree.Kind.CATCH, Tree.Kind.SYNCHRONIZED,
        Tree.Kind.ASSERT, Tree.Kind.LAMBDA_EXPRESSION, Tree.Kind.MEMBER_REFERENCE, Tree.Kind.ANNOTATION);
    private static final Due due = new Due();

    private final CompilationUnitTree unit;
    private final Trees trees;
    /** By method: the methods of the file that it asks. */
    private final Map<ExecutableElement, Set<ExecutableElement>> asks = new HashMap<>();
    private final Set<String> outside = new TreeSet<>();
    private ExecutableElement inside = null;
    private int classes = 0;

    private SourceTreeTest(CompilationUnitTree unit, Trees trees) {
        this.unit = unit;
        this.trees = trees;
    }

    public static void main(String[] args) throws IOException {
        JavaCompiler compiler = ToolProvider.getSystemJavaCompiler();
        try (StandardJavaFileManager files = compiler.getStandardFileManager(null, null, null)) {
            JavacTask task = (JavacTask) compiler.getTask(null, files, null, List.of("-proc:none"), null,
                files.getJavaFileObjects(Path.of("src/main/java/CoverMarks.java")));
            List<CompilationUnitTree> units = new ArrayList<>();
            task.parse().forEach(units::add);
            task.analyze();
            due.is("files", units.size(), 1);
            SourceTreeTest test = new SourceTreeTest(units.get(0), Trees.instance(task));
            test.scan(units.get(0), null);
            test.atTheEnd();
        }
        due.end();
    }

    private void rule(int number, boolean keeps, String told) {
        due.is("rule " + number + ", " + told + " (1: it keeps it): it", keeps ? 1 : 0, 1);
    }

    private void atTheEnd() {
        rule(1, unit.getPackageName() == null, "no package line");
        rule(2, unit.getTypeDecls().size() == 1, "one class in the file");
        rule(11, classes <= MOST_CLASSES, "some twelve classes: " + classes);
        for (String used : outside) {
            rule(4, LIBRARY.contains(used), "the library's " + used);
        }
        for (ExecutableElement method : asks.keySet()) {
            int deep = depth(method, new ArrayList<>());
            rule(8, deep >= 0, "no recursion from " + method);
            rule(11, deep <= MOST_DEEP, "calls go at most eight deep from " + method + ": " + deep);
        }
        due.is("calls of the face whose depth was told", asks.keySet().stream().filter(m -> m.getModifiers().contains(Modifier.PUBLIC)).count(), 29);
    }

    /** How many calls stand open at most, this one too; below 0 if a method comes back to itself. */
    private int depth(ExecutableElement method, List<ExecutableElement> open) {
        if (open.contains(method)) {
            return Integer.MIN_VALUE;
        }
        open.add(method);
        int deepest = 0;
        for (ExecutableElement asked : asks.getOrDefault(method, Set.of())) {
            int deep = depth(asked, open);
            deepest = deep < 0 || deepest < 0 ? Integer.MIN_VALUE : Math.max(deepest, deep);
        }
        open.remove(open.size() - 1);
        return deepest < 0 ? deepest : deepest + 1;
    }

    @Override
    public Void scan(Tree tree, Void none) {
        if (tree != null) {
            rule(6, !RULED_OUT.contains(tree.getKind()), "no " + tree.getKind());
        }
        return super.scan(tree, none);
    }

    @Override
    public Void visitClass(ClassTree tree, Void none) {
        classes++;
        TypeElement type = (TypeElement) trees.getElement(getCurrentPath());
        boolean isFace = type.getEnclosingElement().getKind() == ElementKind.PACKAGE;
        boolean isInside = type.getEnclosingElement().getKind().isClass();
        rule(2, isFace || isInside && type.getModifiers().contains(Modifier.STATIC), "a static class inside: " + type);
        int fields = 0;
        for (Element member : type.getEnclosedElements()) {
            if (member.getKind() != ElementKind.FIELD) {
                continue;
            }
            if (!member.getModifiers().contains(Modifier.STATIC)) {
                fields++;
                continue;
            }
            String told = member.asType().toString();
            rule(5, member.getModifiers().contains(Modifier.FINAL), "static fields are final: " + member);
            rule(5, Set.of("int", "long", "boolean", "char", "java.lang.String").contains(told), "a constant of " + told + ": " + member);
        }
        rule(11, fields <= MOST_FIELDS, "some twenty fields: " + type);
        return super.visitClass(tree, none);
    }

    @Override
    public Void visitMethod(MethodTree tree, Void none) {
        ExecutableElement before = inside;
        inside = (ExecutableElement) trees.getElement(getCurrentPath());
        asks.computeIfAbsent(inside, m -> new HashSet<>());
        boolean isMark = inside.getSimpleName().contentEquals("mark") && inside.getModifiers().contains(Modifier.PUBLIC);
        // the document's face gives mark() eight
        rule(11, tree.getParameters().size() <= (isMark ? 8 : MOST_PARAMETERS), "seven parameters: " + inside);
        rule(11, lines(tree) <= MOST_LINES, "some sixty lines: " + inside);
        super.visitMethod(tree, none);
        inside = before;
        return null;
    }

    private long lines(Tree tree) {
        long from = trees.getSourcePositions().getStartPosition(unit, tree);
        long till = trees.getSourcePositions().getEndPosition(unit, tree);
        // a constructor that is not written has no end
        return till < 0 ? 0 : unit.getLineMap().getLineNumber(till) - unit.getLineMap().getLineNumber(from) + 1;
    }

    @Override
    public Void visitIdentifier(IdentifierTree tree, Void none) {
        asked(trees.getElement(getCurrentPath()));
        return super.visitIdentifier(tree, none);
    }

    @Override
    public Void visitMemberSelect(MemberSelectTree tree, Void none) {
        asked(trees.getElement(getCurrentPath()));
        return super.visitMemberSelect(tree, none);
    }

    @Override
    public Void visitNewClass(NewClassTree tree, Void none) {
        rule(2, tree.getClassBody() == null, "no anonymous class");
        asked(trees.getElement(getCurrentPath()));
        return super.visitNewClass(tree, none);
    }

    private void asked(Element element) {
        if (!(element instanceof ExecutableElement)) {
            return;
        }
        ExecutableElement method = (ExecutableElement) element;
        TypeElement of = (TypeElement) method.getEnclosingElement();
        if (!isOwn(of)) {
            outside.add(of.getSimpleName() + "." + method.getSimpleName());
        } else if (inside != null) {
            asks.get(inside).add(method);
        }
    }

    private static boolean isOwn(Element type) {
        Element top = type;
        while (top.getEnclosingElement() != null && top.getEnclosingElement().getKind() != ElementKind.PACKAGE) {
            top = top.getEnclosingElement();
        }
        return top.getSimpleName().contentEquals("CoverMarks");
    }

    @Override
    public Void visitVariable(VariableTree tree, Void none) {
        TypeMirror type = trees.getElement(getCurrentPath()).asType();
        rule(3, isTaken(type), "a variable of " + type);
        return super.visitVariable(tree, none);
    }

    /** Numbers, texts and own classes, rows of numbers or own classes, rows of rows of numbers. */
    private static boolean isTaken(TypeMirror type) {
        if (type.getKind() == TypeKind.ARRAY) {
            TypeMirror of = ((ArrayType) type).getComponentType();
            boolean rows = of.getKind() == TypeKind.ARRAY && ((ArrayType) of).getComponentType().getKind().isPrimitive();
            return rows || of.getKind().isPrimitive() || isOwnType(of);
        }
        boolean isNumber = type.getKind().isPrimitive() && type.getKind() != TypeKind.DOUBLE && type.getKind() != TypeKind.FLOAT;
        return isNumber || isOwnType(type) || type.toString().equals("java.lang.String");
    }

    private static boolean isOwnType(TypeMirror type) {
        return type.toString().startsWith("CoverMarks");
    }

    @Override
    public Void visitBinary(BinaryTree tree, Void none) {
        TreePath path = getCurrentPath();
        TypeMirror left = trees.getTypeMirror(new TreePath(path, tree.getLeftOperand()));
        TypeMirror right = trees.getTypeMirror(new TreePath(path, tree.getRightOperand()));
        boolean isText = left.toString().equals("java.lang.String") || right.toString().equals("java.lang.String");
        rule(6, !isText, "no texts compared or joined by " + tree.getKind());
        return super.visitBinary(tree, none);
    }

    @Override
    public Void visitForLoop(ForLoopTree tree, Void none) {
        rule(9, tree.getCondition() != null && !tree.getUpdate().isEmpty(), "a loop with a bound and a step");
        return super.visitForLoop(tree, none);
    }
}
