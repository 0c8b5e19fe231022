import com.sun.source.tree.ArrayAccessTree;
import com.sun.source.tree.AssertTree;
import com.sun.source.tree.AssignmentTree;
import com.sun.source.tree.BinaryTree;
import com.sun.source.tree.BlockTree;
import com.sun.source.tree.ClassTree;
import com.sun.source.tree.CompilationUnitTree;
import com.sun.source.tree.IdentifierTree;
import com.sun.source.tree.ImportTree;
import com.sun.source.tree.LambdaExpressionTree;
import com.sun.source.tree.MemberReferenceTree;
import com.sun.source.tree.MemberSelectTree;
import com.sun.source.tree.MethodInvocationTree;
import com.sun.source.tree.MethodTree;
import com.sun.source.tree.NewClassTree;
import com.sun.source.tree.SynchronizedTree;
import com.sun.source.tree.ThrowTree;
import com.sun.source.tree.Tree;
import com.sun.source.tree.TryTree;
import com.sun.source.tree.TypeCastTree;
import com.sun.source.tree.VariableTree;
import com.sun.source.util.JavacTask;
import com.sun.source.util.SourcePositions;
import com.sun.source.util.TreePath;
import com.sun.source.util.TreePathScanner;
import com.sun.source.util.Trees;
import java.io.IOException;
import java.lang.reflect.Field;
import java.lang.reflect.Member;
import java.lang.reflect.Method;
import java.lang.reflect.Modifier;
import java.nio.file.Files;
import java.nio.file.Path;
import java.util.ArrayList;
import java.util.HashSet;
import java.util.LinkedHashMap;
import java.util.LinkedHashSet;
import java.util.List;
import java.util.Map;
import java.util.Set;
import java.util.TreeSet;
import javax.lang.model.element.Element;
import javax.lang.model.element.ElementKind;
import javax.lang.model.element.ExecutableElement;
import javax.lang.model.type.TypeKind;
import javax.lang.model.type.TypeMirror;
import javax.tools.JavaCompiler;
import javax.tools.StandardJavaFileManager;
import javax.tools.ToolProvider;

/** What can be seen of LANGUAGE.md, and the document's face, in the class and its text (its path is the argument). */
public final class LanguageTest extends TreePathScanner<Void, Void> {
    /** "The public face", as it stands in the document. */
    private static final List<String> FACE = List.of("line(int l, int n)", "pull(int l)", "plug(int l)",
            "at(int l, int p)", "wide(int l, int p)", "fixture(int kind, int n)", "group(int form, int k)",
            "member(int g, int i, int f)", "memberAt(int g, int k)", "asks(int f, int ask)", "trace(int i)",
            "about(int f, int what)", "patch(int f, int l, int p)", "unpatch(int f)", "firm(int f, boolean on)",
            "point(int curve, int x, int bits)", "curve(int curve, int v)", "bend(int f, int c, int curve)",
            "entry(int cue, int f, int c, int value, int ticks)", "list(int list, int cue, int follow)",
            "load(int p, int list)", "go(int p)", "stop(int p)", "release(int p)", "master(int p, int m)",
            "merge(int f, int c, boolean latest)", "value(int p, int f, int c)", "playback(int p, int what)",
            "limit(int l, int n)", "heat(int l)", "over(int l)", "blackout(boolean on)", "tick(int n)",
            "found(int finding)", "digest()", "replay()", "back(int n)", "told(int what)");
    /** What the class takes of rule 4's library. */
    private static final Set<String> LIBRARY = Set.of("Math.min", "Math.max", "Math.floorDiv", "Arrays.fill");
    private static final Set<String> OTHER_TYPES = Set.of("java.lang.Math", "java.util.Arrays");
    private static final int MOST_LINES = 60, MOST_PARAMETERS = 7, MOST_DEPTH = 8, MOST_CLASSES = 12, MOST_FIELDS = 20;
    private static final Check CHECK = new Check();

    private final Trees trees;
    private final CompilationUnitTree unit;
    private final List<String> face = new ArrayList<>();
    private final Map<ExecutableElement, Set<ExecutableElement>> calls = new LinkedHashMap<>();
    private final Set<ExecutableElement> recursive = new HashSet<>();

    private LanguageTest(JavacTask task, CompilationUnitTree unit) {
        trees = Trees.instance(task);
        this.unit = unit;
    }

    public static void main(String[] args) throws IOException {
        Path path = Path.of(args[0]);
        faceOfTheClass();
        classesInside();
        plainText(Files.readString(path));
        JavaCompiler compiler = ToolProvider.getSystemJavaCompiler();
        try (StandardJavaFileManager files = compiler.getStandardFileManager(null, null, null)) {
            JavacTask task = (JavacTask) compiler.getTask(null, files, null, List.of("-proc:none"), null,
                    files.getJavaFileObjects(path));
            CompilationUnitTree unit = task.parse().iterator().next();
            task.analyze();
            LanguageTest test = new LanguageTest(task, unit);
            test.scan(unit, null);
            test.whatWasSeen();
        }
        CHECK.end();
    }

    private static void hold(String what, boolean holds) {
        CHECK.due(what, holds ? 1 : 0, 1);
    }

    private static boolean isPrivate(Member member) {
        return Modifier.isPrivate(member.getModifiers());
    }

    // ---- what the machine has of it

    /** Rule 1. */
    private static void faceOfTheClass() {
        hold("public and final", CueBoard.class.getModifiers() == (Modifier.PUBLIC | Modifier.FINAL));
        int seen = 0;
        for (Method method : CueBoard.class.getDeclaredMethods()) {
            if (!isPrivate(method)) {
                seen++;
                hold(method + " is public, not static, int",
                        method.getModifiers() == Modifier.PUBLIC && method.getReturnType() == int.class);
            }
        }
        CHECK.due("methods of the face", seen, FACE.size());
        hold("one constructor, public, of nothing", CueBoard.class.getDeclaredConstructors().length == 1
                && CueBoard.class.getConstructors().length == 1
                && CueBoard.class.getConstructors()[0].getParameterCount() == 0);
        Set<String> constants = new TreeSet<>();
        for (Field field : CueBoard.class.getDeclaredFields()) {
            if (!isPrivate(field)) {
                constants.add(field.getName());
                hold(field + " is a public constant", field.getType() == int.class
                        && field.getModifiers() == (Modifier.PUBLIC | Modifier.STATIC | Modifier.FINAL));
            }
        }
        hold("the constants: " + constants, constants.equals(Set.of("NONE", "BAD", "NO", "FULL")));
    }

    /** Rules 1, 2, 5 and 11. */
    private static void classesInside() {
        Class<?>[] classes = CueBoard.class.getDeclaredClasses();
        hold("twelve classes at most", classes.length < MOST_CLASSES);
        fields(CueBoard.class);
        for (Class<?> inside : classes) {
            hold(inside + " is private, static", Modifier.isPrivate(inside.getModifiers())
                    && Modifier.isStatic(inside.getModifiers()));
            hold(inside + " has no classes inside", inside.getDeclaredClasses().length == 0);
            fields(inside);
        }
    }

    private static void fields(Class<?> type) {
        int own = 0;
        for (Field field : type.getDeclaredFields()) {
            if (Modifier.isStatic(field.getModifiers())) {
                hold(field + " is final", Modifier.isFinal(field.getModifiers()));
            } else {
                own++;
            }
        }
        hold(type + " has twenty fields at most", own <= MOST_FIELDS);
    }

    /** Rule 3: texts, and so the file, hold plain characters alone. */
    private static void plainText(String source) {
        boolean plain = true;
        for (int i = 0; i < source.length(); i++) {
            plain = plain && source.charAt(i) <= 126;
        }
        hold("plain characters alone", plain);
    }

    // ---- what its text has

    private String placeOf(Tree tree) {
        long start = trees.getSourcePositions().getStartPosition(unit, tree);
        return "line " + unit.getLineMap().getLineNumber(start) + ": " + tree.getKind();
    }

    private void notThere(Tree tree) {
        hold("not in this Java, " + placeOf(tree), false);
    }

    private static boolean isOwn(Element element) {
        Element outer = element;
        while (outer.getEnclosingElement() != null && outer.getEnclosingElement().getKind() != ElementKind.PACKAGE) {
            outer = outer.getEnclosingElement();
        }
        return outer.getSimpleName().contentEquals("CueBoard");
    }

    private static boolean isFloating(TypeMirror type) {
        return type != null && (type.getKind() == TypeKind.FLOAT || type.getKind() == TypeKind.DOUBLE);
    }

    private TypeMirror typeOf(Tree tree) {
        return trees.getTypeMirror(new TreePath(getCurrentPath(), tree));
    }

    /** The method, or else the constructor of the class, in which the place at hand is. */
    private ExecutableElement callerHere() {
        for (TreePath path = getCurrentPath(); path != null; path = path.getParentPath()) {
            if (path.getLeaf() instanceof MethodTree) {
                return (ExecutableElement) trees.getElement(path);
            }
            if (path.getLeaf() instanceof ClassTree) {
                return constructorOf(trees.getElement(path));
            }
        }
        throw new IllegalStateException("a call outside all classes");
    }

    private static ExecutableElement constructorOf(Element type) {
        for (Element element : type.getEnclosedElements()) {
            if (element.getKind() == ElementKind.CONSTRUCTOR) {
                return (ExecutableElement) element;
            }
        }
        throw new IllegalStateException(type + " has no constructor");
    }

    private void callHere(ExecutableElement callee) {
        ExecutableElement caller = callerHere();
        if (caller.equals(callee)) {
            recursive.add(caller);
        } else {
            calls.computeIfAbsent(caller, key -> new LinkedHashSet<>()).add(callee);
        }
    }

    /** Rule 4. */
    @Override
    public Void visitImport(ImportTree tree, Void nothing) {
        hold(placeOf(tree), tree.getQualifiedIdentifier().toString().equals("java.util.Arrays"));
        return null;
    }

    /** Rules 2, 5 and 6. */
    @Override
    public Void visitClass(ClassTree tree, Void nothing) {
        Tree around = getCurrentPath().getParentPath().getLeaf();
        hold("a class of its own, " + placeOf(tree),
                around instanceof ClassTree || around instanceof CompilationUnitTree);
        hold("extends nothing, " + placeOf(tree), tree.getExtendsClause() == null);
        return super.visitClass(tree, nothing);
    }

    /** Rules 1, 8 and 11. */
    @Override
    public Void visitMethod(MethodTree tree, Void nothing) {
        SourcePositions at = trees.getSourcePositions();
        long lines = unit.getLineMap().getLineNumber(at.getEndPosition(unit, tree))
                - unit.getLineMap().getLineNumber(at.getStartPosition(unit, tree)) + 1;
        hold(tree.getName() + " is short", lines <= MOST_LINES);
        hold(tree.getName() + " takes seven at most", tree.getParameters().size() <= MOST_PARAMETERS);
        hold(tree.getName() + " throws nothing", tree.getThrows().isEmpty());
        Element method = trees.getElement(getCurrentPath());
        if (method.getModifiers().contains(javax.lang.model.element.Modifier.PUBLIC)
                && method.getKind() == ElementKind.METHOD) {
            face.add(tree.getName() + "(" + tree.getParameters().toString().replace(",", ", ") + ")");
        } else {
            hold(tree.getName() + " bears no name of the face",
                    FACE.stream().noneMatch(shown -> shown.startsWith(tree.getName() + "(")));
        }
        return super.visitMethod(tree, nothing);
    }

    /** Rule 4; and the calls for rules 8 and 11. */
    @Override
    public Void visitMethodInvocation(MethodInvocationTree tree, Void nothing) {
        ExecutableElement callee = (ExecutableElement) trees.getElement(new TreePath(getCurrentPath(),
                tree.getMethodSelect()));
        Element type = callee.getEnclosingElement();
        if (isOwn(callee)) {
            callHere(callee);
        } else if (callee.getKind() != ElementKind.CONSTRUCTOR) {
            String name = type.getSimpleName() + "." + callee.getSimpleName();
            hold("not of the library: " + name, LIBRARY.contains(name));
            boolean floating = tree.getArguments().stream().anyMatch(argument -> isFloating(typeOf(argument)));
            hold("over ints: " + name, !floating);
        }
        return super.visitMethodInvocation(tree, nothing);
    }

    /** Rules 2, 4 and 12: own classes alone are made, none of which has a body here. */
    @Override
    public Void visitNewClass(NewClassTree tree, Void nothing) {
        Element made = trees.getElement(getCurrentPath());
        hold("made of an own class, " + placeOf(tree), isOwn(made) && tree.getClassBody() == null);
        callHere((ExecutableElement) made);
        return super.visitNewClass(tree, nothing);
    }

    /** Rules 3 and 4: the types that are named. */
    @Override
    public Void visitIdentifier(IdentifierTree tree, Void nothing) {
        namesType(tree);
        return super.visitIdentifier(tree, nothing);
    }

    @Override
    public Void visitMemberSelect(MemberSelectTree tree, Void nothing) {
        namesType(tree);
        return super.visitMemberSelect(tree, nothing);
    }

    private void namesType(Tree tree) {
        Element element = trees.getElement(getCurrentPath());
        if (element != null && (element.getKind().isClass() || element.getKind().isInterface())) {
            hold("a type of this Java: " + element, isOwn(element) || OTHER_TYPES.contains(element.toString()));
        }
    }

    /** Rule 5. */
    @Override
    public Void visitVariable(VariableTree tree, Void nothing) {
        Element variable = trees.getElement(getCurrentPath());
        boolean isStatic = variable.getModifiers().contains(javax.lang.model.element.Modifier.STATIC);
        if (isStatic) {
            String type = variable.asType().toString();
            hold("a constant, " + placeOf(tree), type.equals("int") || type.equals("int[]"));
            hold("written out, " + placeOf(tree), tree.getInitializer() != null
                    && !(tree.getInitializer() instanceof MethodInvocationTree));
        }
        return super.visitVariable(tree, nothing);
    }

    @Override
    public Void visitAssignment(AssignmentTree tree, Void nothing) {
        if (tree.getVariable() instanceof ArrayAccessTree) {
            Tree array = ((ArrayAccessTree) tree.getVariable()).getExpression();
            Element row = trees.getElement(new TreePath(getCurrentPath(), array));
            hold("a row that is no constant, " + placeOf(tree), row != null
                    && !row.getModifiers().contains(javax.lang.model.element.Modifier.STATIC));
        }
        return super.visitAssignment(tree, nothing);
    }

    @Override
    public Void visitBlock(BlockTree tree, Void nothing) {
        hold("no initialiser block, " + placeOf(tree),
                !(getCurrentPath().getParentPath().getLeaf() instanceof ClassTree));
        return super.visitBlock(tree, nothing);
    }

    /** Rules 3 and 10: floats are added, taken away, multiplied, divided, compared; texts are not joined. */
    @Override
    public Void visitBinary(BinaryTree tree, Void nothing) {
        if (isFloating(typeOf(tree.getLeftOperand())) || isFloating(typeOf(tree.getRightOperand()))) {
            hold("an act on floats, " + placeOf(tree), tree.getKind() != Tree.Kind.REMAINDER);
        }
        hold("no text, " + placeOf(tree), trees.getTypeMirror(getCurrentPath()).getKind().isPrimitive());
        return super.visitBinary(tree, nothing);
    }

    /** Rules 6 and 7: a cast that cannot fail. */
    @Override
    public Void visitTypeCast(TypeCastTree tree, Void nothing) {
        hold("a cast of numbers, " + placeOf(tree), trees.getTypeMirror(getCurrentPath()).getKind().isPrimitive()
                && typeOf(tree.getExpression()).getKind().isPrimitive());
        return super.visitTypeCast(tree, nothing);
    }

    @Override
    public Void visitLambdaExpression(LambdaExpressionTree tree, Void nothing) {
        notThere(tree);
        return null;
    }

    @Override
    public Void visitMemberReference(MemberReferenceTree tree, Void nothing) {
        notThere(tree);
        return null;
    }

    @Override
    public Void visitThrow(ThrowTree tree, Void nothing) {
        notThere(tree);
        return null;
    }

    @Override
    public Void visitTry(TryTree tree, Void nothing) {
        notThere(tree);
        return null;
    }

    @Override
    public Void visitSynchronized(SynchronizedTree tree, Void nothing) {
        notThere(tree);
        return null;
    }

    @Override
    public Void visitAssert(AssertTree tree, Void nothing) {
        notThere(tree);
        return null;
    }

    // ---- what comes of it

    private void whatWasSeen() {
        hold("one class, no package", unit.getTypeDecls().size() == 1 && unit.getPackage() == null);
        hold("the face in its order: " + face, face.equals(FACE));
        for (ExecutableElement method : recursive) {
            String last = method.getParameters().get(method.getParameters().size() - 1).getSimpleName().toString();
            hold(method + " is private and carries its depth", last.equals("depth")
                    && method.getModifiers().contains(javax.lang.model.element.Modifier.PRIVATE));
        }
        int deepest = 0;
        for (ExecutableElement method : calls.keySet()) {
            deepest = Math.max(deepest, depthOf(method, new HashSet<>()));
        }
        hold("calls go eight deep at most: " + deepest, deepest > 1 && deepest <= MOST_DEPTH);
    }

    /** How many calls stand open at once, but for those of a method that calls itself. */
    private int depthOf(ExecutableElement method, Set<ExecutableElement> open) {
        boolean isNew = open.add(method);
        hold(method + " does not come back to itself", isNew);
        if (!isNew) {
            return 0;
        }
        int deepest = 0;
        for (ExecutableElement callee : calls.getOrDefault(method, Set.of())) {
            deepest = Math.max(deepest, depthOf(callee, open));
        }
        open.remove(method);
        return deepest + 1;
    }
}
