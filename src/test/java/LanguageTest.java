import com.sun.source.tree.AnnotationTree;
import com.sun.source.tree.AssertTree;
import com.sun.source.tree.BinaryTree;
import com.sun.source.tree.ClassTree;
import com.sun.source.tree.CompilationUnitTree;
import com.sun.source.tree.ImportTree;
import com.sun.source.tree.LambdaExpressionTree;
import com.sun.source.tree.MemberReferenceTree;
import com.sun.source.tree.MethodInvocationTree;
import com.sun.source.tree.MethodTree;
import com.sun.source.tree.NewClassTree;
import com.sun.source.tree.SynchronizedTree;
import com.sun.source.tree.ThrowTree;
import com.sun.source.tree.Tree;
import com.sun.source.tree.TryTree;
import com.sun.source.tree.VariableTree;
import com.sun.source.util.JavacTask;
import com.sun.source.util.TreePathScanner;
import com.sun.source.util.Trees;
import java.lang.reflect.Modifier;
import java.nio.file.Path;
import java.util.ArrayList;
import java.util.Arrays;
import java.util.LinkedHashMap;
import java.util.LinkedHashSet;
import java.util.List;
import java.util.Map;
import java.util.Set;
import java.util.TreeSet;
import javax.lang.model.element.Element;
import javax.lang.model.element.ElementKind;
import javax.lang.model.type.TypeKind;
import javax.lang.model.type.TypeMirror;
import javax.tools.JavaCompiler;
import javax.tools.StandardJavaFileManager;
import javax.tools.ToolProvider;

/** The rules of ../shared/LANGUAGE.md, as far as the compiler's tree of the class tells them. */
public final class LanguageTest extends TreePathScanner<Void, Void> {
    private static final Path SOURCE = Path.of("src/main/java/OhmBridge.java");
    private static final List<String> FACE = Arrays.asList("table", "node", "nodeAt", "ratio", "inverse", "sensor", "plug",
            "unplug", "slotAt", "bath", "lead", "strain", "cut", "drift", "calibrate", "limits", "sensorOf", "set", "counts",
            "ohms", "diagnosis", "read", "scan", "readingAt", "median", "meanBits", "count", "undo", "type", "clearText",
            "fault", "play");
    private static final List<String> CONSTANTS = Arrays.asList("INVALID_ARGUMENT", "NOT_POSSIBLE", "LIMIT_REACHED",
            "NOT_FOUND");
    /** What the class needs of the library that rule 4 leaves; another call is to be looked up there first. */
    private static final List<String> LIBRARY = Arrays.asList("System.arraycopy", "Math.min", "Math.max", "Math.abs",
            "Integer.bitCount");
    private static final List<String> TYPES = Arrays.asList("int", "long", "char", "boolean", "float", "double", "void",
            "int[]", "char[]");
    private static final int MOST_LINES = 60;
    private static final int MOST_PARAMETERS = 7;
    private static final int MOST_CLASSES = 12;
    private static final int MOST_FIELDS = 20;
    private static final int MOST_DEPTH = 8;

    private final CompilationUnitTree unit;
    private final Trees trees;
    private final Map<Element, Set<Element>> calls = new LinkedHashMap<>();
    private final Set<String> classes = new TreeSet<>();
    private int faults = 0;
    private int deepest = 0;

    private LanguageTest(CompilationUnitTree unit, Trees trees) {
        this.unit = unit;
        this.trees = trees;
    }

    public static void main(String[] args) throws Exception {
        JavaCompiler compiler = ToolProvider.getSystemJavaCompiler();
        StandardJavaFileManager files = compiler.getStandardFileManager(null, null, null);
        JavacTask task = (JavacTask) compiler.getTask(null, files, null, List.of("-proc:none"), null,
                files.getJavaFileObjects(SOURCE));
        CompilationUnitTree unit = task.parse().iterator().next();
        task.analyze();
        LanguageTest test = new LanguageTest(unit, Trees.instance(task));
        test.scan(unit, null);
        test.face();
        test.shape();
        System.out.println("        " + test.classes.size() + " classes, calls " + test.deepest + " deep");
        if (test.faults > 0) {
            System.exit(1);
        }
    }

    private void fault(int rule, Tree at, String words) {
        long start = at == null ? 0 : trees.getSourcePositions().getStartPosition(unit, at);
        System.out.println(SOURCE + ":" + (at == null ? 1 : unit.getLineMap().getLineNumber(start)) + ", rule " + rule + ": "
                + words);
        faults++;
    }

    private void face() throws Exception {
        List<String> methods = new ArrayList<>();
        for (java.lang.reflect.Method method : OhmBridge.class.getDeclaredMethods()) {
            if (Modifier.isPublic(method.getModifiers())) {
                methods.add(method.getName());
            } else if (!Modifier.isPrivate(method.getModifiers())) {
                fault(1, null, method.getName() + " is neither public nor private");
            }
        }
        List<String> constants = new ArrayList<>();
        for (java.lang.reflect.Field field : OhmBridge.class.getDeclaredFields()) {
            if (Modifier.isPublic(field.getModifiers())) {
                constants.add(field.getName());
            } else if (!Modifier.isPrivate(field.getModifiers())) {
                fault(1, null, field.getName() + " is neither public nor private");
            }
        }
        if (methods.size() != FACE.size() || !methods.containsAll(FACE)) {
            fault(1, null, "the public methods are " + methods);
        }
        if (constants.size() != CONSTANTS.size() || !constants.containsAll(CONSTANTS)) {
            fault(1, null, "the public constants are " + constants);
        }
        if (OhmBridge.class.getConstructors().length != 1 || !Modifier.isFinal(OhmBridge.class.getModifiers())) {
            fault(1, null, "the class is to be final, with one public constructor");
        }
    }

    private void shape() {
        if (classes.size() > MOST_CLASSES) {
            fault(11, null, classes.size() + " classes");
        }
        for (Element method : new ArrayList<>(calls.keySet())) {
            deepest = Math.max(deepest, depth(method, new LinkedHashSet<>()));
        }
        if (deepest > MOST_DEPTH) {
            fault(11, null, "calls go " + deepest + " deep");
        }
    }

    private int depth(Element method, Set<Element> open) {
        if (!open.add(method)) {
            fault(8, null, "a recursion without a guard that this test knows: " + open);
            return 0;
        }
        int deep = 0;
        for (Element called : calls.getOrDefault(method, Set.of())) {
            deep = Math.max(deep, depth(called, open));
        }
        open.remove(method);
        return deep + 1;
    }

    @Override
    public Void visitImport(ImportTree tree, Void none) {
        fault(4, tree, "nothing needs an import");
        return super.visitImport(tree, none);
    }

    @Override
    public Void visitClass(ClassTree tree, Void none) {
        Element element = trees.getElement(getCurrentPath());
        boolean outer = tree.getSimpleName().contentEquals("OhmBridge");
        classes.add(element.toString());
        if (!outer && (!element.getModifiers().contains(javax.lang.model.element.Modifier.STATIC)
                || element.getModifiers().contains(javax.lang.model.element.Modifier.PUBLIC)
                || element.getModifiers().contains(javax.lang.model.element.Modifier.PROTECTED))) {
            fault(1, tree, "a class inside is static, and private or package-visible");
        }
        int fields = 0;
        for (Tree member : tree.getMembers()) {
            if (member instanceof VariableTree
                    && !((VariableTree) member).getModifiers().getFlags().contains(javax.lang.model.element.Modifier.STATIC)) {
                fields++;
            }
            if (member.getKind() == Tree.Kind.BLOCK) {
                fault(5, member, "a block of initialisers");
            }
        }
        if (fields > MOST_FIELDS) {
            fault(11, tree, fields + " fields");
        }
        return super.visitClass(tree, none);
    }

    @Override
    public Void visitMethod(MethodTree tree, Void none) {
        Element element = trees.getElement(getCurrentPath());
        calls.computeIfAbsent(element, key -> new LinkedHashSet<>());
        boolean isPublic = tree.getModifiers().getFlags().contains(javax.lang.model.element.Modifier.PUBLIC);
        if (!isPublic && FACE.contains(tree.getName().toString())) {
            fault(1, tree, tree.getName() + " bears the name of a public method");
        }
        if (tree.getParameters().size() > MOST_PARAMETERS) {
            fault(11, tree, tree.getParameters().size() + " parameters");
        }
        long first = unit.getLineMap().getLineNumber(trees.getSourcePositions().getStartPosition(unit, tree));
        long last = unit.getLineMap().getLineNumber(Math.max(0, trees.getSourcePositions().getEndPosition(unit, tree)));
        if (last - first + 1 > MOST_LINES) {
            fault(11, tree, tree.getName() + " has " + (last - first + 1) + " lines");
        }
        return super.visitMethod(tree, none);
    }

    @Override
    public Void visitVariable(VariableTree tree, Void none) {
        Element element = trees.getElement(getCurrentPath());
        boolean isStatic = element.getModifiers().contains(javax.lang.model.element.Modifier.STATIC);
        if (isStatic && !element.getModifiers().contains(javax.lang.model.element.Modifier.FINAL)) {
            fault(5, tree, tree.getName() + " is static and not final");
        }
        String type = element.asType().toString();
        boolean own = type.replace("[]", "").startsWith("OhmBridge.") && !type.contains("[][]");
        if (!TYPES.contains(type) && !own) {
            fault(3, tree, "the type " + type);
        }
        boolean isField = element.getKind() == ElementKind.FIELD;
        if (isStatic && isField && !List.of("int", "long", "boolean", "char", "int[]").contains(type)) {
            fault(5, tree, tree.getName() + " is no constant");
        }
        return super.visitVariable(tree, none);
    }

    @Override
    public Void visitMethodInvocation(MethodInvocationTree tree, Void none) {
        Element called = trees.getElement(getCurrentPath());
        called(called);
        String owner = called.getEnclosingElement().toString();
        String name = called.getEnclosingElement().getSimpleName() + "." + called.getSimpleName();
        boolean implicit = called.getKind() == ElementKind.CONSTRUCTOR;
        if (!owner.startsWith("OhmBridge") && !implicit && !LIBRARY.contains(name)) {
            fault(4, tree, "the call of " + name);
        }
        if (owner.equals("java.lang.Math")) {
            tree.getArguments().forEach(argument -> whole(argument));
        }
        return super.visitMethodInvocation(tree, none);
    }

    private void whole(Tree argument) {
        TypeMirror type = trees.getTypeMirror(new com.sun.source.util.TreePath(getCurrentPath(), argument));
        if (type.getKind() != TypeKind.INT && type.getKind() != TypeKind.LONG) {
            fault(3, argument, "a function of Math over " + type);
        }
    }

    private void called(Element called) {
        com.sun.source.util.TreePath path = getCurrentPath();
        while (path != null && !(path.getLeaf() instanceof MethodTree)) {
            path = path.getParentPath();
        }
        if (path != null && called.getKind() != ElementKind.CONSTRUCTOR) {
            calls.computeIfAbsent(trees.getElement(path), key -> new LinkedHashSet<>()).add(called);
        }
    }

    @Override
    public Void visitNewClass(NewClassTree tree, Void none) {
        if (tree.getClassBody() != null) {
            fault(2, tree, "an anonymous class");
        }
        com.sun.source.util.TreePath path = getCurrentPath();
        while (path != null && !(path.getLeaf() instanceof MethodTree)) {
            path = path.getParentPath();
        }
        if (path != null && !((MethodTree) path.getLeaf()).getName().contentEquals("<init>")) {
            fault(12, tree, "an object that a call makes");
        }
        return super.visitNewClass(tree, none);
    }

    @Override
    public Void visitBinary(BinaryTree tree, Void none) {
        TypeMirror type = trees.getTypeMirror(getCurrentPath());
        if (tree.getKind() == Tree.Kind.PLUS && type.toString().endsWith("String")) {
            fault(10, tree, "texts joined by +");
        }
        if (tree.getKind() == Tree.Kind.REMAINDER && (type.getKind() == TypeKind.DOUBLE || type.getKind() == TypeKind.FLOAT)) {
            fault(3, tree, "a remainder of doubles");
        }
        return super.visitBinary(tree, none);
    }

    @Override
    public Void visitLambdaExpression(LambdaExpressionTree tree, Void none) {
        fault(2, tree, "a lambda");
        return super.visitLambdaExpression(tree, none);
    }

    @Override
    public Void visitMemberReference(MemberReferenceTree tree, Void none) {
        fault(2, tree, "a method reference");
        return super.visitMemberReference(tree, none);
    }

    @Override
    public Void visitThrow(ThrowTree tree, Void none) {
        fault(6, tree, "the document names no exception");
        return super.visitThrow(tree, none);
    }

    @Override
    public Void visitTry(TryTree tree, Void none) {
        fault(6, tree, "nothing here throws");
        return super.visitTry(tree, none);
    }

    @Override
    public Void visitAssert(AssertTree tree, Void none) {
        fault(6, tree, "an assert");
        return super.visitAssert(tree, none);
    }

    @Override
    public Void visitSynchronized(SynchronizedTree tree, Void none) {
        fault(6, tree, "a synchronized block");
        return super.visitSynchronized(tree, none);
    }

    @Override
    public Void visitAnnotation(AnnotationTree tree, Void none) {
        fault(4, tree, "an annotation");
        return super.visitAnnotation(tree, none);
    }
}
