import com.sun.source.tree.BinaryTree;
import com.sun.source.tree.BlockTree;
import com.sun.source.tree.ClassTree;
import com.sun.source.tree.CompilationUnitTree;
import com.sun.source.tree.CompoundAssignmentTree;
import com.sun.source.tree.ForLoopTree;
import com.sun.source.tree.IdentifierTree;
import com.sun.source.tree.ImportTree;
import com.sun.source.tree.MethodInvocationTree;
import com.sun.source.tree.MethodTree;
import com.sun.source.tree.NewClassTree;
import com.sun.source.tree.Tree;
import com.sun.source.tree.VariableTree;
import com.sun.source.util.JavacTask;
import com.sun.source.util.TreePath;
import com.sun.source.util.TreePathScanner;
import com.sun.source.util.TreeScanner;
import com.sun.source.util.Trees;
import java.nio.file.Files;
import java.nio.file.Path;
import java.util.EnumSet;
import java.util.HashSet;
import java.util.LinkedHashSet;
import java.util.List;
import java.util.Map;
import java.util.Set;
import java.util.TreeMap;
import javax.lang.model.element.Element;
import javax.lang.model.element.ElementKind;
import javax.lang.model.element.Modifier;
import javax.lang.model.type.TypeKind;
import javax.lang.model.type.TypeMirror;
import javax.tools.JavaCompiler;
import javax.tools.StandardJavaFileManager;
import javax.tools.ToolProvider;

/** Rules of ../shared/LANGUAGE.md that can be seen in the program's text, read by the compiler. */
final class LanguageTest extends TreePathScanner<Void, Void> {
    private static final Checks C = new Checks("LanguageTest");
    private static final Path PROGRAM = Path.of("src/main/java/PaletteTurns.java");
    private static final int LONGEST_METHOD = 60;
    private static final int MOST_PARAMETERS = 7;
    private static final int MOST_CLASSES = 12;
    private static final int MOST_FIELDS = 20;
    private static final int DEEPEST_CALLS = 8;

    private static final Set<Tree.Kind> NOT_ALLOWED = EnumSet.of(Tree.Kind.THROW, Tree.Kind.TRY, Tree.Kind.CATCH,
        Tree.Kind.SYNCHRONIZED, Tree.Kind.ASSERT, Tree.Kind.LAMBDA_EXPRESSION, Tree.Kind.MEMBER_REFERENCE,
        Tree.Kind.PACKAGE);
    private static final Set<String> IMPORTS = Set.of("java.util.ArrayList", "java.util.List", "java.util.Arrays",
        "java.util.Iterator");
    /** Math, Integer and Long are looked at for themselves. */
    private static final Map<String, Set<String>> LIBRARY = Map.of(
        "java.lang.String", Set.of("length", "charAt", "isEmpty", "equals", "indexOf", "substring", "toCharArray"),
        "java.lang.StringBuilder", Set.of("append", "charAt", "setCharAt", "setLength", "deleteCharAt", "reverse",
            "length", "toString"),
        "java.util.ArrayList", Set.of("add", "get", "set", "remove", "size", "isEmpty", "clear"),
        "java.util.List", Set.of("add", "get", "set", "remove", "size", "isEmpty", "clear", "of"),
        "java.lang.System", Set.of("arraycopy"),
        "java.util.Iterator", Set.of("hasNext", "next"),
        "java.util.Arrays", Set.of("copyOf", "copyOfRange", "fill"));
    private static final Set<String> NUMBERS = Set.of("java.lang.Math", "java.lang.Integer", "java.lang.Long");
    private static final Set<String> MADE = Set.of("java.lang.String", "java.lang.StringBuilder", "java.util.ArrayList");
    private static final Set<String> TYPES = Set.of("int", "long", "short", "byte", "char", "boolean", "double", "float",
        "java.lang.String", "java.lang.StringBuilder", "java.lang.Integer");
    private static final Set<String> CONSTANTS = Set.of("int", "long", "boolean", "char", "java.lang.String", "int[]",
        "long[]", "char[]", "byte[]");

    private final Trees trees;
    private final CompilationUnitTree unit;
    private final Map<Element, Set<Element>> calls = new TreeMap<>((one, other) -> name(one).compareTo(name(other)));
    private Element caller = null;
    private int classes = 0;

    private LanguageTest(JavacTask task, CompilationUnitTree unit) {
        trees = Trees.instance(task);
        this.unit = unit;
    }

    public static void main(String[] args) throws Exception {
        String text = Files.readString(PROGRAM);
        C.due("signs above 127", text.chars().filter(sign -> sign > 127).count(), 0);
        JavaCompiler compiler = ToolProvider.getSystemJavaCompiler();
        try (StandardJavaFileManager files = compiler.getStandardFileManager(null, null, null)) {
            JavacTask task = (JavacTask) compiler.getTask(null, files, null, List.of("-proc:none"), null,
                files.getJavaFileObjects(PROGRAM));
            CompilationUnitTree unit = task.parse().iterator().next();
            task.analyze();
            LanguageTest test = new LanguageTest(task, unit);
            test.scan(unit, null);
            C.holds("rule 11: classes: " + test.classes, test.classes <= MOST_CLASSES);
            test.depths();
        }
        C.end();
    }

    // ---- what a tree is

    private Element element(Tree tree) {
        return trees.getElement(TreePath.getPath(unit, tree));
    }

    private String type(Tree tree) {
        TypeMirror type = trees.getTypeMirror(TreePath.getPath(unit, tree));
        return type == null ? "" : type.toString();
    }

    private static String name(Element element) {
        return element.getEnclosingElement() + "." + element;
    }

    private static boolean isOwn(String type) {
        return type.equals("PaletteTurns") || type.startsWith("PaletteTurns.");
    }

    private long line(long position) {
        return unit.getLineMap().getLineNumber(position);
    }

    private String where(Tree tree) {
        return "line " + line(trees.getSourcePositions().getStartPosition(unit, tree)) + ": ";
    }

    // ---- what may stand there

    @Override
    public Void scan(Tree tree, Void none) {
        if (tree != null) {
            C.holds("rules 2 and 6: " + tree.getKind(), !NOT_ALLOWED.contains(tree.getKind()));
        }
        return super.scan(tree, none);
    }

    @Override
    public Void visitImport(ImportTree tree, Void none) {
        C.holds("rule 4: " + tree, IMPORTS.contains(tree.getQualifiedIdentifier().toString()) && !tree.isStatic());
        return super.visitImport(tree, none);
    }

    @Override
    public Void visitClass(ClassTree tree, Void none) {
        classes++;
        Tree around = getCurrentPath().getParentPath().getLeaf();
        C.holds(where(tree) + "rule 2: a class in the file or in a class",
            around instanceof ClassTree || around instanceof CompilationUnitTree);
        int fields = 0;
        for (Tree member : tree.getMembers()) {
            if (member instanceof VariableTree && !element(member).getModifiers().contains(Modifier.STATIC)) {
                fields++;
            }
            C.holds(where(member) + "rule 5: no static block", !(member instanceof BlockTree && ((BlockTree) member).isStatic()));
        }
        C.holds(where(tree) + "rule 11: fields: " + fields, fields <= MOST_FIELDS);
        return super.visitClass(tree, none);
    }

    @Override
    public Void visitVariable(VariableTree tree, Void none) {
        Element variable = element(tree);
        String type = variable.asType().toString();
        if (variable.getModifiers().contains(Modifier.STATIC)) {
            C.holds(where(tree) + "rule 5: " + tree, variable.getModifiers().contains(Modifier.FINAL)
                && (CONSTANTS.contains(type) || variable.getKind() == ElementKind.ENUM_CONSTANT));
        }
        boolean isOfGenericClass = variable.asType().getKind() == TypeKind.TYPEVAR;
        C.holds(where(tree) + "rule 3: " + type, isOfGenericClass || isAllowedType(type));
        return super.visitVariable(tree, none);
    }

    private static boolean isAllowedType(String type) {
        String plain = type.replaceFirst("^java\\.util\\.(ArrayList|List|Iterator)<(.*)>$", "$2");
        if (!plain.equals(type)) {
            return isOwn(plain) || plain.equals("java.lang.Integer");
        }
        String element = type.replaceFirst("\\[\\]$", "");
        boolean isTable = element.endsWith("[]");
        element = element.replaceFirst("\\[\\]$", "");
        return isTable ? TYPES.contains(element) && !element.startsWith("java.") : TYPES.contains(element) || isOwn(element);
    }

    @Override
    public Void visitBinary(BinaryTree tree, Void none) {
        String types = type(tree.getLeftOperand()) + " " + type(tree.getRightOperand());
        boolean isText = types.contains("java.lang.String");
        boolean isObject = isText || types.contains("java.lang.Integer");
        switch (tree.getKind()) {
            case PLUS -> C.holds(where(tree) + "rule 10: texts are not joined by +", !isText);
            case EQUAL_TO, NOT_EQUAL_TO -> C.holds(where(tree) + "rule 6: no == of texts or Integers", !isObject);
            default -> { }
        }
        return super.visitBinary(tree, none);
    }

    @Override
    public Void visitCompoundAssignment(CompoundAssignmentTree tree, Void none) {
        C.holds(where(tree) + "rule 10: texts are not joined by +=", !type(tree.getVariable()).contains("String"));
        return super.visitCompoundAssignment(tree, none);
    }

    @Override
    public Void visitForLoop(ForLoopTree tree, Void none) {
        Set<String> moved = namesIn(tree.getUpdate());
        Set<String> compared = tree.getCondition() == null ? Set.of() : namesIn(List.of(tree.getCondition()));
        moved.retainAll(compared);
        C.holds(where(tree) + "rule 9: a counter against a bound", !moved.isEmpty());
        return super.visitForLoop(tree, none);
    }

    private static Set<String> namesIn(List<? extends Tree> parts) {
        Set<String> names = new HashSet<>();
        new TreeScanner<Void, Void>() {
            @Override
            public Void visitIdentifier(IdentifierTree tree, Void none) {
                names.add(tree.getName().toString());
                return null;
            }
        }.scan(parts, null);
        return names;
    }

    // ---- methods and their calls

    @Override
    public Void visitMethod(MethodTree tree, Void none) {
        Element before = caller;
        caller = element(tree);
        calls.putIfAbsent(caller, new LinkedHashSet<>());
        long first = line(trees.getSourcePositions().getStartPosition(unit, tree));
        long last = line(trees.getSourcePositions().getEndPosition(unit, tree));
        C.holds(caller + " rule 11: lines", last - first < LONGEST_METHOD);
        C.holds(caller + " rule 11: parameters", tree.getParameters().size() <= MOST_PARAMETERS);
        C.holds(caller + " rule 6: no method of every object",
            !Set.of("equals", "hashCode", "toString", "finalize").contains(tree.getName().toString()));
        super.visitMethod(tree, none);
        caller = before;
        return null;
    }

    @Override
    public Void visitMethodInvocation(MethodInvocationTree tree, Void none) {
        Element called = element(tree.getMethodSelect());
        String owner = called.getEnclosingElement().toString();
        if (!isOwn(owner)) {
            C.holds(where(tree) + "rule 4: " + name(called), isAllowedCall(owner, called.getSimpleName().toString(), tree));
        } else if (caller != null) {
            calls.get(caller).add(called);
        }
        return super.visitMethodInvocation(tree, none);
    }

    private boolean isAllowedCall(String owner, String method, MethodInvocationTree tree) {
        if (NUMBERS.contains(owner)) {
            return !method.endsWith("Exact") && !method.equals("random") && Set.of("int", "long").contains(type(tree));
        }
        boolean isCopy = method.equals("clone") && owner.equals("Array");
        boolean isMadeBefore = method.equals("<init>");
        return isCopy || isMadeBefore || LIBRARY.getOrDefault(owner.replaceFirst("<.*", ""), Set.of()).contains(method);
    }

    @Override
    public Void visitNewClass(NewClassTree tree, Void none) {
        String type = type(tree).replaceFirst("<.*", "");
        C.holds(where(tree) + "rule 4: new " + type, isOwn(type) || MADE.contains(type));
        C.holds(where(tree) + "rule 2: no class without a name", tree.getClassBody() == null);
        return super.visitNewClass(tree, none);
    }

    private void depths() {
        for (Element method : calls.keySet()) {
            int depth = depth(method, new HashSet<>());
            C.holds("rule 11: calls below " + name(method) + " go " + depth + " deep", depth <= DEEPEST_CALLS);
        }
    }

    /** Calls that come back to an open one are recursion, and not counted on. */
    private int depth(Element method, Set<String> open) {
        if (!calls.containsKey(method) || !open.add(name(method))) {
            return 0;
        }
        int deepest = 0;
        for (Element called : calls.get(method)) {
            deepest = Math.max(deepest, depth(called, open));
        }
        open.remove(name(method));
        return deepest + 1;
    }
}
