import com.sun.source.tree.*;
import com.sun.source.util.JavacTask;
import com.sun.source.util.TreePath;
import com.sun.source.util.TreePathScanner;
import com.sun.source.util.Trees;
import java.nio.file.Files;
import java.nio.file.Path;
import java.util.ArrayList;
import java.util.EnumSet;
import java.util.HashMap;
import java.util.LinkedHashSet;
import java.util.List;
import java.util.Map;
import java.util.Set;
import java.util.TreeSet;
import java.util.regex.Matcher;
import java.util.regex.Pattern;
import javax.lang.model.element.Element;
import javax.lang.model.element.ExecutableElement;
import javax.lang.model.element.Modifier;
import javax.lang.model.element.TypeElement;
import javax.lang.model.type.TypeMirror;
import javax.tools.JavaCompiler;
import javax.tools.StandardJavaFileManager;
import javax.tools.ToolProvider;

/**
 * Looks through src/main/java/HollowShire.java for what ../shared/LANGUAGE.md rules out, as far as a reader of trees
 * can see it: the face, the kinds of classes, fields and statements, the library's calls, sizes and depths.
 */
public final class LanguageTest extends TreePathScanner<Void, Void> {
    private static final Set<Tree.Kind> RULED_OUT = EnumSet.of(Tree.Kind.THROW, Tree.Kind.TRY, Tree.Kind.CATCH,
        Tree.Kind.SYNCHRONIZED, Tree.Kind.ASSERT, Tree.Kind.LAMBDA_EXPRESSION, Tree.Kind.MEMBER_REFERENCE,
        Tree.Kind.SWITCH_EXPRESSION, Tree.Kind.IMPORT, Tree.Kind.ANNOTATION);
    private static final Set<String> LIBRARY = Set.of("String.length", "String.charAt", "Math.abs", "Math.min", "Math.max",
        "Long.bitCount", "System.arraycopy");
    private static final Set<String> TYPES = Set.of("int", "long", "byte", "boolean", "void", "java.lang.String", "int[]", "boolean[]");
    private static final int METHOD_LINES = 60, PARAMETERS = 7, FIELDS = 20, CLASSES = 12, DEEP = 8;

    private final Trees trees;
    private final CompilationUnitTree unit;
    private final Set<String> publicNames = new TreeSet<>();
    private final Map<String, Set<String>> calls = new HashMap<>();
    private String method = null;
    private int classes = 0;
    private int wrong = 0;

    private LanguageTest(Trees trees, CompilationUnitTree unit) {
        this.trees = trees;
        this.unit = unit;
    }

    public static void main(String[] args) throws Exception {
        JavaCompiler javac = ToolProvider.getSystemJavaCompiler();
        try (StandardJavaFileManager files = javac.getStandardFileManager(null, null, null)) {
            JavacTask task = (JavacTask) javac.getTask(null, files, null, List.of("-proc:none", "-Xlint:all"), null,
                files.getJavaFileObjects(Path.of("src/main/java/HollowShire.java")));
            CompilationUnitTree unit = task.parse().iterator().next();
            task.analyze();
            LanguageTest test = new LanguageTest(Trees.instance(task), unit);
            test.checkFace();
            test.scan(unit, null);
            test.checkDepth();
            System.out.println(test.wrong == 0 ? "LanguageTest: the program keeps to its language" : test.wrong + " places do not");
            if (test.wrong != 0) System.exit(1);
        }
    }

    private void say(Tree at, String what) {
        wrong++;
        long line = at == null ? 0 : unit.getLineMap().getLineNumber(trees.getSourcePositions().getStartPosition(unit, at));
        System.out.println("HollowShire.java:" + line + ": " + what);
    }

    // Rule 1: the face is the document's, to the letter.
    private void checkFace() throws Exception {
        String document = Files.readString(Path.of("../shared/DOC.md"));
        String face = document.substring(document.indexOf("```java"), document.indexOf("## Terms"));
        Set<String> due = new TreeSet<>();
        Matcher m = Pattern.compile("public (int|long) (\\w+)\\(([^)]*)\\);").matcher(face);
        while (m.find()) {
            due.add(m.group(1) + " " + m.group(2) + "(" + m.group(3).replaceAll(" \\w+(,|$)", "$1").replace(" ", "") + ")");
            publicNames.add(m.group(2));
        }
        Set<String> there = new TreeSet<>();
        Class<?> c = HollowShire.class;
        for (java.lang.reflect.Method d : c.getDeclaredMethods()) {
            boolean isPrivate = java.lang.reflect.Modifier.isPrivate(d.getModifiers());
            StringBuilder s = new StringBuilder(d.getReturnType() + " " + d.getName() + "(");
            for (Class<?> p : d.getParameterTypes()) s.append(s.charAt(s.length() - 1) == '(' ? "" : ",").append(p);
            if (!isPrivate) there.add(s + ")");
        }
        if (due.size() != 38 || !due.equals(there)) say(null, "the face is " + there + ", due is " + due);
        for (java.lang.reflect.Field f : c.getDeclaredFields()) {
            boolean isFace = Set.of("NONE", "BAD", "STATE", "FULL", "NO").contains(f.getName());
            if (java.lang.reflect.Modifier.isPrivate(f.getModifiers()) == isFace) say(null, "field " + f.getName());
        }
        if (c.getDeclaredConstructors().length != 1 || c.getConstructors().length != 1) say(null, "constructors");
        if (!java.lang.reflect.Modifier.isFinal(c.getModifiers()) || !c.getPackageName().isEmpty()) say(null, "class");
    }

    @Override
    public Void scan(Tree tree, Void v) {
        if (tree != null && RULED_OUT.contains(tree.getKind())) say(tree, "rules 2, 4, 6: " + tree.getKind());
        return super.scan(tree, v);
    }

    @Override
    public Void visitClass(ClassTree tree, Void v) {
        classes++;
        if (classes > CLASSES) say(tree, "rule 11: too many classes");
        Tree above = getCurrentPath().getParentPath().getLeaf();
        if (above instanceof ClassTree) {
            Set<Modifier> flags = tree.getModifiers().getFlags();
            if (!flags.contains(Modifier.STATIC) || flags.contains(Modifier.PUBLIC) || flags.contains(Modifier.PROTECTED)) say(tree, "rule 1, 2: " + tree.getSimpleName());
        } else if (!(above instanceof CompilationUnitTree)) {
            say(tree, "rule 2: a local or anonymous class");
        }
        int fields = 0;
        for (Tree member : tree.getMembers()) {
            if (member instanceof VariableTree field && !field.getModifiers().getFlags().contains(Modifier.STATIC)) fields++;
            if (member instanceof BlockTree) say(member, "rule 5: an initialiser block");
        }
        if (fields > FIELDS) say(tree, "rule 11: " + fields + " fields");
        return super.visitClass(tree, v);
    }

    @Override
    public Void visitMethod(MethodTree tree, Void v) {
        String name = tree.getName().toString();
        boolean isPublic = tree.getModifiers().getFlags().contains(Modifier.PUBLIC);
        if (!isPublic && publicNames.contains(name)) say(tree, "rule 1: " + name + " bears a public name");
        if (tree.getParameters().size() > PARAMETERS) say(tree, "rule 11: parameters of " + name);
        if (lineOf(tree, false) - lineOf(tree, true) >= METHOD_LINES) say(tree, "rule 11: " + name + " is long");
        if (!tree.getThrows().isEmpty()) say(tree, "rule 6: throws");
        String outer = method;
        method = nameOf(trees.getElement(getCurrentPath()));
        calls.computeIfAbsent(method, k -> new LinkedHashSet<>());
        super.visitMethod(tree, v);
        method = outer;
        return null;
    }

    private long lineOf(Tree tree, boolean start) {
        long at = start ? trees.getSourcePositions().getStartPosition(unit, tree) : trees.getSourcePositions().getEndPosition(unit, tree);
        return unit.getLineMap().getLineNumber(at);
    }

    private static String nameOf(Element e) {
        return e == null ? "?" : e.getEnclosingElement() + "." + e.getSimpleName() + ((ExecutableElement) e).getParameters().size();
    }

    private boolean isOwn(Element e) {
        String of = e.getEnclosingElement().toString();
        return of.equals("HollowShire") || of.startsWith("HollowShire.");
    }

    @Override
    public Void visitMethodInvocation(MethodInvocationTree tree, Void v) {
        Element e = trees.getElement(getCurrentPath());
        if (isOwn(e)) {
            if (method != null) calls.get(method).add(nameOf(e));
        } else if (e.getSimpleName().contentEquals("<init>")) {
            // The call of the constructor above, which javac puts in.
        } else if (!LIBRARY.contains(((TypeElement) e.getEnclosingElement()).getSimpleName() + "." + e.getSimpleName())) {
            say(tree, "rule 4: " + e.getEnclosingElement() + "." + e);
        }
        return super.visitMethodInvocation(tree, v);
    }

    @Override
    public Void visitNewClass(NewClassTree tree, Void v) {
        Element e = trees.getElement(getCurrentPath());
        if (!isOwn(e)) say(tree, "rule 3: new " + e);
        // A field's initialiser is a part of the constructors.
        String from = method != null ? method : "HollowShire.<init>0";
        calls.computeIfAbsent(from, k -> new LinkedHashSet<>()).add(nameOf(e));
        return super.visitNewClass(tree, v);
    }

    @Override
    public Void visitVariable(VariableTree tree, Void v) {
        Element e = trees.getElement(getCurrentPath());
        String type = e.asType().toString();
        boolean own = type.startsWith("HollowShire");
        if (!own && !TYPES.contains(type)) say(tree, "rule 3: " + type);
        Set<Modifier> flags = tree.getModifiers().getFlags();
        if (flags.contains(Modifier.STATIC)) {
            boolean constant = flags.contains(Modifier.FINAL) && (type.equals("int[]") ? tree.getInitializer() instanceof NewArrayTree : !own);
            if (!constant) say(tree, "rule 5: " + tree.getName());
            if (type.equals("int[]")) checkWrittenOut((NewArrayTree) tree.getInitializer());
        }
        return super.visitVariable(tree, v);
    }

    private void checkWrittenOut(NewArrayTree array) {
        for (ExpressionTree one : array.getInitializers()) {
            boolean literal = one instanceof LiteralTree || one.getKind() == Tree.Kind.UNARY_MINUS;
            if (!literal) say(one, "rule 5: not written out");
        }
    }

    @Override
    public Void visitBinary(BinaryTree tree, Void v) {
        TypeMirror left = typeOf(tree.getLeftOperand()), right = typeOf(tree.getRightOperand());
        boolean text = left.toString().equals("java.lang.String") || right.toString().equals("java.lang.String");
        if (text) say(tree, "rules 6, 10: " + tree);
        boolean divides = tree.getKind() == Tree.Kind.DIVIDE || tree.getKind() == Tree.Kind.REMAINDER;
        if (divides && !TESTED_DIVISORS.contains(tree.getRightOperand().toString())) say(tree, "rule 7: a divisor, " + tree);
        return super.visitBinary(tree, v);
    }

    /** Constants above 0, and those that the lines ahead of them test. */
    private static final Set<String> TESTED_DIVISORS = Set.of("2", "4", "8", "10", "20", "WIDTH", "SIZES.length", "b", "shared", "(parts + 1)");

    private TypeMirror typeOf(Tree tree) {
        return trees.getTypeMirror(new TreePath(getCurrentPath(), tree));
    }

    @Override
    public Void visitForLoop(ForLoopTree tree, Void v) {
        String end = String.valueOf(tree.getCondition());
        if (tree.getCondition() == null || tree.getUpdate().size() != 1 || !end.contains("<") && !end.contains(">")) say(tree, "rule 9: " + end);
        return super.visitForLoop(tree, v);
    }

    @Override
    public Void visitWhileLoop(WhileLoopTree tree, Void v) {
        say(tree, "rule 9: a while");
        return super.visitWhileLoop(tree, v);
    }

    @Override
    public Void visitDoWhileLoop(DoWhileLoopTree tree, Void v) {
        say(tree, "rule 9: a do");
        return super.visitDoWhileLoop(tree, v);
    }

    // Rule 11: calls that are no recursion go eight deep at most; methods that call one another in a ring count once.
    private void checkDepth() {
        Map<String, Integer> depth = new HashMap<>();
        for (String m : calls.keySet()) {
            List<String> path = new ArrayList<>();
            int deep = depthOf(m, path, depth);
            if (deep > DEEP) say(null, "rule 11: " + m + " goes " + deep + " deep");
        }
    }

    private Set<String> reached(String from) {
        Set<String> all = new LinkedHashSet<>();
        List<String> open = new ArrayList<>(List.of(from));
        while (!open.isEmpty()) for (String to : calls.getOrDefault(open.remove(0), Set.of())) if (all.add(to)) open.add(to);
        return all;
    }

    private int depthOf(String m, List<String> path, Map<String, Integer> known) {
        if (known.containsKey(m)) return known.get(m);
        Set<String> ring = new LinkedHashSet<>(Set.of(m));
        for (String other : reached(m)) if (reached(other).contains(m)) ring.add(other);
        int below = 0;
        for (String in : ring)
            for (String to : calls.getOrDefault(in, Set.of()))
                if (!ring.contains(to)) below = Math.max(below, depthOf(to, path, known));
        for (String in : ring) known.put(in, below + 1);
        return below + 1;
    }
}
