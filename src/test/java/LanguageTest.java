import com.sun.source.tree.*;
import com.sun.source.util.JavacTask;
import com.sun.source.util.SourcePositions;
import com.sun.source.util.TreePath;
import com.sun.source.util.TreePathScanner;
import com.sun.source.util.Trees;
import java.nio.file.Path;
import java.util.ArrayList;
import java.util.HashMap;
import java.util.HashSet;
import java.util.List;
import java.util.Map;
import java.util.Set;
import java.util.TreeSet;
import javax.lang.model.element.Element;
import javax.lang.model.element.ElementKind;
import javax.lang.model.element.ExecutableElement;
import javax.lang.model.element.Modifier;
import javax.lang.model.element.TypeElement;
import javax.tools.JavaCompiler;
import javax.tools.StandardJavaFileManager;
import javax.tools.ToolProvider;

/** The source, as javac understands it, keeps to those rules of ../shared/LANGUAGE.md that can be told from it. */
public final class LanguageTest extends TreePathScanner<Void, Void> {
    private static final Path SOURCE = Path.of("src/main/java/StickRelay.java");
    private static final int MOST_CLASSES = 12, MOST_FIELDS = 20, MOST_LINES = 60, MOST_PARAMETERS = 7, MOST_DEPTH = 8;
    private static final String NUMBERS = "(int|long|short|byte|char|boolean)";
    // Of what rule 4 lists, that which the program has come to need.
    private static final Set<String> LIBRARY = Set.of(
        "java.lang.Math.max", "java.lang.Math.min", "java.lang.Integer.bitCount", "java.lang.System.arraycopy",
        "java.util.Arrays.fill", "java.lang.Object.<init>");
    /** None of them may stand in the source, by rules 1, 2 and 6. */
    private static final Set<Tree.Kind> NEVER = Set.of(
        Tree.Kind.THROW, Tree.Kind.TRY, Tree.Kind.CATCH, Tree.Kind.SYNCHRONIZED, Tree.Kind.ASSERT, Tree.Kind.PACKAGE,
        Tree.Kind.LAMBDA_EXPRESSION, Tree.Kind.MEMBER_REFERENCE, Tree.Kind.ANNOTATION_TYPE);

    private final Check check = new Check();
    private final Trees trees;
    private final CompilationUnitTree unit;
    private final Set<String> ownClasses = new HashSet<>();
    private final Set<String> faceMethods = new HashSet<>();
    private final Map<Element, Set<Element>> calls = new HashMap<>();
    private final Set<Element> underWay = new HashSet<>();

    private LanguageTest(JavacTask task) throws Exception {
        trees = Trees.instance(task);
        unit = task.parse().iterator().next();
        task.analyze();
    }

    public static void main(String[] args) throws Exception {
        JavaCompiler compiler = ToolProvider.getSystemJavaCompiler();
        StandardJavaFileManager files = compiler.getStandardFileManager(null, null, null);
        LanguageTest test = new LanguageTest((JavacTask) compiler.getTask(
            null, files, null, List.of("-proc:none"), null, files.getJavaFileObjects(SOURCE)));
        test.collectNames();
        test.scan(test.unit, null);
        test.depthsAreSmall();
        test.check.end();
    }

    private void collectNames() {
        TypeElement face = null;
        for (Tree type : unit.getTypeDecls()) {
            face = (TypeElement) trees.getElement(TreePath.getPath(unit, type));
            ownClasses.add(face.getSimpleName().toString());
        }
        check.due("1: classes outside of others", unit.getTypeDecls().size(), 1);
        for (Element member : face.getEnclosedElements()) {
            if (member.getKind().isClass()) ownClasses.add(member.getSimpleName().toString());
            boolean isSeen = member.getModifiers().contains(Modifier.PUBLIC);
            if (member.getKind() == ElementKind.METHOD && isSeen) faceMethods.add(member.getSimpleName().toString());
        }
        check.holds("11: classes", ownClasses.size() <= MOST_CLASSES);
    }

    private void holds(String rule, boolean isSo, Tree at) {
        SourcePositions places = trees.getSourcePositions();
        long line = unit.getLineMap().getLineNumber(places.getStartPosition(unit, at));
        check.holds("line " + line + ", rule " + rule, isSo);
    }

    private Element element() {
        return trees.getElement(getCurrentPath());
    }

    @Override
    public Void scan(Tree tree, Void none) {
        if (tree != null) holds("1, 2, 6: no " + tree.getKind(), !NEVER.contains(tree.getKind()), tree);
        return super.scan(tree, none);
    }

    @Override
    public Void visitImport(ImportTree tree, Void none) {
        holds("4: no library but Arrays", tree.toString().strip().equals("import java.util.Arrays;"), tree);
        return null;
    }

    @Override
    public Void visitClass(ClassTree tree, Void none) {
        Element type = element();
        boolean isFace = type.getSimpleName().contentEquals("StickRelay");
        Set<Modifier> modifiers = type.getModifiers();
        boolean isWell = isFace ? modifiers.equals(Set.of(Modifier.PUBLIC, Modifier.FINAL))
            : modifiers.contains(Modifier.STATIC) && !modifiers.contains(Modifier.PUBLIC) && !modifiers.contains(Modifier.PROTECTED);
        holds("1, 2: how a class may be seen", isWell, tree);
        holds("2: no class but in the face", isFace || getCurrentPath().getParentPath().getParentPath().getLeaf() == unit, tree);
        int fields = 0;
        for (Element member : type.getEnclosedElements()) {
            if (member.getKind() == ElementKind.FIELD && !member.getModifiers().contains(Modifier.STATIC)) fields++;
        }
        holds("11: fields", fields <= MOST_FIELDS, tree);
        return super.visitClass(tree, none);
    }

    @Override
    public Void visitBlock(BlockTree tree, Void none) {
        Tree parent = getCurrentPath().getParentPath().getLeaf();
        holds("5: no initialiser block", !(parent instanceof ClassTree), tree);
        return super.visitBlock(tree, none);
    }

    @Override
    public Void visitMethod(MethodTree tree, Void none) {
        Element method = element();
        boolean isOfFace = method.getModifiers().contains(Modifier.PUBLIC);
        holds("1: no name of the face once more", isOfFace || !faceMethods.contains(tree.getName().toString()), tree);
        holds("11: parameters", tree.getParameters().size() <= MOST_PARAMETERS, tree);
        holds("3: no list of arguments", !((ExecutableElement) method).isVarArgs(), tree);
        SourcePositions places = trees.getSourcePositions();
        long first = unit.getLineMap().getLineNumber(Math.max(0, places.getStartPosition(unit, tree)));
        long last = unit.getLineMap().getLineNumber(Math.max(0, places.getEndPosition(unit, tree)));
        holds("11: lines of a method", last - first < MOST_LINES, tree);
        calls.putIfAbsent(method, new HashSet<>());
        return super.visitMethod(tree, none);
    }

    @Override
    public Void visitVariable(VariableTree tree, Void none) {
        String type = String.valueOf(tree.getType());
        boolean isNumber = type.matches(NUMBERS + "(\\[\\]){0,2}");
        holds("3: a type of its own or of numbers: " + type, isNumber || ownClasses.contains(type), tree);
        if (element().getModifiers().contains(Modifier.STATIC)) {
            holds("5: static fields are final", element().getModifiers().contains(Modifier.FINAL), tree);
            ExpressionTree made = tree.getInitializer();
            boolean isWritten = made instanceof NewArrayTree && ((NewArrayTree) made).getInitializers() != null;
            boolean isConstant = ((javax.lang.model.element.VariableElement) element()).getConstantValue() != null;
            holds("5: constants, and arrays that are written out", isConstant || isWritten, tree);
        }
        return super.visitVariable(tree, none);
    }

    @Override
    public Void visitAssignment(AssignmentTree tree, Void none) {
        String to = tree.getVariable().toString();
        // By the names alone: in this class such names in capitals are those of static arrays.
        holds("5: static arrays never change", !to.matches("[A-Z_.]+\\[.*"), tree);
        return super.visitAssignment(tree, none);
    }

    @Override
    public Void visitWhileLoop(WhileLoopTree tree, Void none) {
        holds("9: an end that can be seen", tree.getCondition().toString().contains("<"), tree);
        return super.visitWhileLoop(tree, none);
    }

    @Override
    public Void visitForLoop(ForLoopTree tree, Void none) {
        holds("9: an end that can be seen", tree.getCondition() != null && tree.getUpdate().size() == 1, tree);
        return super.visitForLoop(tree, none);
    }

    @Override
    public Void visitMethodInvocation(MethodInvocationTree tree, Void none) {
        called(trees.getElement(getCurrentPath()), tree);
        return super.visitMethodInvocation(tree, none);
    }

    @Override
    public Void visitNewClass(NewClassTree tree, Void none) {
        holds("2: no class without a name", tree.getClassBody() == null, tree);
        holds("12: an object is made by a constructor alone", maker() == null || maker().getKind() == ElementKind.CONSTRUCTOR, tree);
        called(element(), tree);
        return super.visitNewClass(tree, none);
    }

    @Override
    public Void visitNewArray(NewArrayTree tree, Void none) {
        holds("12: a row is made by a constructor alone", maker() == null || maker().getKind() == ElementKind.CONSTRUCTOR, tree);
        return super.visitNewArray(tree, none);
    }

    /** The method or the constructor that this is part of; null in the initialiser of a field. */
    private Element maker() {
        for (TreePath path = getCurrentPath(); path != null; path = path.getParentPath()) {
            if (path.getLeaf() instanceof MethodTree) return trees.getElement(path);
        }
        return null;
    }

    private void called(Element whom, Tree at) {
        Element of = whom.getEnclosingElement();
        String name = of + "." + whom.getSimpleName();
        boolean isOwn = of.toString().startsWith("StickRelay");
        holds("4: no library but what is listed: " + name, isOwn || LIBRARY.contains(name), at);
        if (maker() != null) calls.computeIfAbsent(maker(), made -> new HashSet<>()).add(whom);
    }

    private void depthsAreSmall() {
        TreeSet<String> tooDeep = new TreeSet<>();
        for (Element method : new ArrayList<>(calls.keySet())) {
            if (depth(method) > MOST_DEPTH) tooDeep.add(method.toString());
        }
        check.holds("rule 11: calls go deeper than " + MOST_DEPTH + " from " + tooDeep, tooDeep.isEmpty());
        check.holds("rule 4: the calls were found", calls.size() > faceMethods.size());
    }

    /** How many calls stand open at once below this one and with it. */
    private int depth(Element method) {
        check.holds("rule 8: " + method + " does not come back to itself", !underWay.contains(method));
        if (!underWay.add(method)) return 0;
        int deepest = 0;
        for (Element next : calls.getOrDefault(method, Set.of())) deepest = Math.max(deepest, depth(next));
        underWay.remove(method);
        return 1 + deepest;
    }
}
