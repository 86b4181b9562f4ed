import com.sun.source.tree.ArrayAccessTree;
import com.sun.source.tree.AssertTree;
import com.sun.source.tree.AssignmentTree;
import com.sun.source.tree.BinaryTree;
import com.sun.source.tree.BlockTree;
import com.sun.source.tree.ClassTree;
import com.sun.source.tree.CompilationUnitTree;
import com.sun.source.tree.CompoundAssignmentTree;
import com.sun.source.tree.DoWhileLoopTree;
import com.sun.source.tree.ExpressionTree;
import com.sun.source.tree.ForLoopTree;
import com.sun.source.tree.IdentifierTree;
import com.sun.source.tree.ImportTree;
import com.sun.source.tree.LambdaExpressionTree;
import com.sun.source.tree.LiteralTree;
import com.sun.source.tree.MemberReferenceTree;
import com.sun.source.tree.MethodInvocationTree;
import com.sun.source.tree.MethodTree;
import com.sun.source.tree.NewArrayTree;
import com.sun.source.tree.NewClassTree;
import com.sun.source.tree.ParenthesizedTree;
import com.sun.source.tree.SynchronizedTree;
import com.sun.source.tree.ThrowTree;
import com.sun.source.tree.Tree;
import com.sun.source.tree.TryTree;
import com.sun.source.tree.TypeCastTree;
import com.sun.source.tree.UnaryTree;
import com.sun.source.tree.VariableTree;
import com.sun.source.tree.WhileLoopTree;
import com.sun.source.util.JavacTask;
import com.sun.source.util.SourcePositions;
import com.sun.source.util.TreePath;
import com.sun.source.util.TreePathScanner;
import com.sun.source.util.TreeScanner;
import com.sun.source.util.Trees;
import java.io.IOException;
import java.net.URI;
import java.nio.file.Files;
import java.nio.file.Path;
import java.util.ArrayDeque;
import java.util.ArrayList;
import java.util.Deque;
import java.util.HashMap;
import java.util.HashSet;
import java.util.LinkedHashMap;
import java.util.LinkedHashSet;
import java.util.List;
import java.util.Map;
import java.util.Set;
import java.util.regex.Pattern;
import javax.lang.model.element.Element;
import javax.lang.model.element.ElementKind;
import javax.lang.model.element.Modifier;
import javax.lang.model.element.TypeElement;
import javax.lang.model.element.VariableElement;
import javax.lang.model.type.ArrayType;
import javax.lang.model.type.DeclaredType;
import javax.lang.model.type.TypeKind;
import javax.lang.model.type.TypeMirror;
import javax.tools.JavaFileObject;
import javax.tools.SimpleJavaFileObject;
import javax.tools.ToolProvider;

/**
 * The rules of LANGUAGE.md, read off the class as javac understands it. Where a rule leaves to judgement what this
 * class has no use for (while, double, objects made in a call), the test is the stricter one. Rules 1 to 12 are each
 * broken on purpose, by what is put into the class or around it, and that has to be found.
 */
public final class LanguageTest {
    private static final Path SOURCE = Path.of("src/main/java/SnakedBus.java");
    private static final int MOST_PARAMETERS = 7, MOST_LINES = 60, MOST_CLASSES = 12, MOST_FIELDS = 20, DEEPEST = 8;
    private static final Set<String> IMPORTS = Set.of("java.util.Arrays", "java.util.ArrayList", "java.util.List",
        "java.util.Iterator");
    private static final Set<String> TYPES = Set.of("java.lang.String", "java.lang.StringBuilder", "java.lang.Integer",
        "java.util.ArrayList", "java.util.List", "java.util.Iterator", "java.lang.Iterable", "java.lang.Comparable");
    private static final Map<String, Set<String>> LIBRARY = Map.of(
        "java.lang.String", Set.of("length", "charAt", "isEmpty", "equals", "indexOf", "substring", "toCharArray"),
        "java.lang.StringBuilder", Set.of("append", "charAt", "setCharAt", "setLength", "deleteCharAt", "reverse",
            "length", "toString"),
        "java.util.ArrayList", Set.of("add", "get", "set", "remove", "size", "isEmpty", "clear"),
        "java.util.List", Set.of("add", "get", "set", "remove", "size", "isEmpty", "clear", "of"),
        "java.lang.Integer", Set.of("compare", "max", "min", "abs", "bitCount", "signum"),
        "java.lang.Long", Set.of("compare", "max", "min", "abs", "bitCount", "signum"),
        "java.lang.Math", Set.of("max", "min", "abs", "floorDiv", "floorMod"),
        "java.lang.System", Set.of("arraycopy"),
        "java.util.Arrays", Set.of("copyOf", "copyOfRange", "fill"));

    /** The rule's number, and a member that breaks it. */
    private static final String[][] BROKEN = {
        {"1", "int seen() { return 0; }"},
        {"1", "protected static final int SEEN = 1;"},
        {"1", "private int line(long a) { return 0; }"},
        {"1", "public static final class Seen { Seen() { } }"},
        {"2", "private final class Inner { Inner() { } }"},
        {"2", "private static int other() { class Local { } return 0; }"},
        {"2", "private interface Many { int f(int a); } private static Many one() { return a -> a; }"},
        {"2", "private interface Many { int f(int a); } private static Many one() { return Math::abs; }"},
        {"2", "private interface Many { int f(int a); } private final Many one = new Many() {"
            + " public int f(int a) { return a; } };"},
        {"3", "private static Object other() { return null; }"},
        {"3", "private static int other(int[][][] a) { return 0; }"},
        {"3", "private static int other(java.util.Map<Integer, Integer> a) { return 0; }"},
        {"3", "private static int other(int a) { double b = a; return (int) b; }"},
        {"3", "private static int other(String[] a) { return 0; }"},
        {"4", "private static int other() { return Integer.parseInt(\"5\"); }"},
        {"4", "private static int other() { return Math.addExact(1, 2); }"},
        {"4", "private static void other() { System.out.println(); }"},
        {"4", "private static long other() { return System.nanoTime(); }"},
        {"4", "private final java.util.HashMap<Integer, Integer> map = new java.util.HashMap<>();"},
        {"5", "private static int many = 0;"},
        {"5", "static { }"},
        {"5", "private static final int[] ROW = new int[3];"},
        {"5", "private static final Bus ONE = new Bus();"},
        {"5", "private static final int[] ROW = {1, 2}; private static void other() { ROW[0] = 1; }"},
        {"5", "private static final int[] ROW = {1, 2}; private static void other() { ROW[0]++; }"},
        {"5", "private static final int[] ROW = {1, 2}; private static void other() { ROW[0] += 1; }"},
        {"5", "private static final int[] ROW = {1, 2}; private static void other() { put(ROW, 0, 1); }"},
        {"6", "private static void other() { throw new IllegalStateException(); }"},
        {"6", "private static int other(int a) { try { return a; } finally { a++; } }"},
        {"6", "private static void other(int[] a) { synchronized (a) { } }"},
        {"6", "private static void other(int a) { assert a > 0; }"},
        {"6", "private interface Kind { } private static final class One implements Kind { One() { } }"
            + " private static One other(Kind a) { return (One) a; }"},
        {"6", "private static boolean other(String a, String b) { return a == b; }"},
        {"6", "private static final class Own { Own() { } public int hashCode() { return 1; } }"},
        {"7", "private static int other(int[] row, int i) { return row[i]; }"},
        {"7", "private static int other(int[] row, int i) { return i < row.length ? row[i] : 0; }"},
        {"7", "private static int other(int[] row, int i) { return i >= 0 ? row[i] : 0; }"},
        {"7", "private static int other(int[] row, int i) { return i >= 0 && i < row.length ? row[i + 1] : 0; }"},
        {"7", "private static int other(int a, int b) { return a / b; }"},
        {"7", "private static int other(int a, int b) { return a % b; }"},
        {"7", "private static int other(int a, int b) { a /= b; return a; }"},
        {"7", "private static int other(int a, int b) { a %= b; return a; }"},
        {"7", "private static int other(int a, int[] b) { return a / at(b, 0); }"},
        {"7", "private static int other(int a) { return a / 0; }"},
        {"7", "private static int other(int a) { int[] row = new int[a]; return row.length; }"},
        {"8", "private static int other(int a) { return a < 1 ? 0 : other(a - 1); }"},
        {"8", "private static int one(int a) { return two(a); } private static int two(int a) { return one(a); }"},
        {"9", "private static void other() { while (true) { } }"},
        {"9", "private static void other() { do { } while (true); }"},
        {"9", "private static void other() { for (;;) { } }"},
        {"9", "private static void other() { for (int i = 0; i < 5; ) { } }"},
        {"9", "private static void other() { for (int i = 0; i < 5; i++) { i--; } }"},
        {"9", "private static void other() { for (int i = 0; i < 5; i++) { i = 0; } }"},
        {"10", "private static String other(String a) { return a + 1; }"},
        {"10", "private static String other(String a) { a += 1; return a; }"},
        {"11", "private static void other(int a, int b, int c, int d, int e, int f, int g, int h) { }"},
        {"11", "private static void other() {" + "\n".repeat(61) + "}"},
        {"11", "private static int d1() { return d2(); } private static int d2() { return d3(); }"
            + " private static int d3() { return d4(); } private static int d4() { return d5(); }"
            + " private static int d5() { return d6(); } private static int d6() { return d7(); }"
            + " private static int d7() { return d8(); } private static int d8() { return Math.abs(1); }"},
        {"11", "private interface C1 { } private interface C2 { } private interface C3 { } private interface C4 { }"
            + " private interface C5 { } private interface C6 { } private interface C7 { }"},
        {"11", "private static final class Wide { int a, b, c, d, e, f, g, h, i, j, k, l, m, n, o, p, q, r, s, t,"
            + " u; }"},
        {"12", "private static int other() { int[] row = new int[3]; return row.length; }"},
        {"12", "private static Bus other() { return new Bus(); }"},
    };

    /** The rule's number, and what breaks it ahead of the class or behind it. */
    private static final String[][] BROKEN_AROUND = {
        {"1", "", "class Second { }"},
        {"3", "package some;\n", ""},
        {"4", "import java.util.HashMap;\n", ""},
        {"4", "import static java.lang.Math.abs;\n", ""},
        {"4", "", "// " + (char) 233},
        {"4", "\t", ""},
    };

    /** Goes through the class and notes, by their numbers, the rules that it breaks. */
    private static final class Reader extends TreePathScanner<Void, Void> {
        final List<String> faults = new ArrayList<>();
        private final CompilationUnitTree unit;
        private final Trees trees;
        private final SourcePositions places;
        private final Map<Element, Set<Element>> calls = new LinkedHashMap<>();
        private final Map<Element, Integer> depths = new HashMap<>();
        private final Deque<Element> open = new ArrayDeque<>();
        private final Set<String> publicNames = new HashSet<>();
        private int classes = 0;

        Reader(CompilationUnitTree unit, Trees trees) {
            this.unit = unit;
            this.trees = trees;
            places = trees.getSourcePositions();
        }

        void read() {
            if (unit.getPackageName() != null) {
                fault(3, unit, "a package");
            }
            if (unit.getTypeDecls().size() != 1) {
                fault(1, unit, "more than one class in the file");
            }
            for (Element e : outer().getEnclosedElements()) {
                if (e.getModifiers().contains(Modifier.PUBLIC) && e.getKind() == ElementKind.METHOD) {
                    publicNames.add(e.getSimpleName().toString());
                }
            }
            scan(unit, null);
            if (classes > MOST_CLASSES) {
                fault(11, unit, classes + " classes");
            }
            for (Element method : calls.keySet()) {
                depth(method);
            }
        }

        private TypeElement outer() {
            return (TypeElement) trees.getElement(new TreePath(new TreePath(unit), unit.getTypeDecls().get(0)));
        }

        private void fault(int rule, Tree where, String what) {
            long line = unit.getLineMap().getLineNumber(Math.max(0, places.getStartPosition(unit, where)));
            faults.add("rule " + rule + ", line " + line + ": " + what);
        }

        private Element element() {
            return trees.getElement(getCurrentPath());
        }

        private Element elementOf(Tree tree) {
            return trees.getElement(new TreePath(getCurrentPath(), tree));
        }

        private TypeMirror typeOf(Tree tree) {
            return trees.getTypeMirror(new TreePath(getCurrentPath(), tree));
        }

        private MethodTree method() {
            for (Tree t : getCurrentPath()) {
                if (t instanceof MethodTree) {
                    return (MethodTree) t;
                }
                if (t instanceof ClassTree) {
                    return null;
                }
            }
            return null;
        }

        private boolean isOwn(Element e) {
            for (Element x = e; x != null; x = x.getEnclosingElement()) {
                if (x.equals(outer())) {
                    return true;
                }
            }
            return false;
        }

        @Override
        public Void visitImport(ImportTree node, Void v) {
            String name = node.getQualifiedIdentifier().toString();
            if (node.isStatic() || !IMPORTS.contains(name)) {
                fault(4, node, "imports " + name);
            }
            return null;
        }

        @Override
        public Void visitClass(ClassTree node, Void v) {
            classes++;
            Element e = element();
            boolean isOuter = e.equals(outer());
            Tree parent = getCurrentPath().getParentPath().getLeaf();
            Set<Modifier> with = e.getModifiers();
            if (!isOuter && (!(parent instanceof ClassTree) || !with.contains(Modifier.STATIC))) {
                fault(2, node, "a class that is not static, or is local or without a name");
            }
            if (!isOuter && (with.contains(Modifier.PUBLIC) || with.contains(Modifier.PROTECTED))) {
                fault(1, node, "a class inside that can be seen from outside");
            }
            int fields = 0;
            for (Tree member : node.getMembers()) {
                if (member instanceof BlockTree && ((BlockTree) member).isStatic()) {
                    fault(5, member, "a static initialiser");
                }
                fields += member instanceof VariableTree
                    && !((VariableTree) member).getModifiers().getFlags().contains(Modifier.STATIC) ? 1 : 0;
            }
            if (fields > MOST_FIELDS) {
                fault(11, node, fields + " fields");
            }
            if (isOuter) {
                for (Tree member : node.getMembers()) {
                    faceOf(member, elementOf(member));
                }
            }
            return super.visitClass(node, v);
        }

        private void faceOf(Tree member, Element e) {
            if (e == null || e.getKind().isClass() || e.getKind().isInterface()) {
                return;
            }
            boolean isPublic = e.getModifiers().contains(Modifier.PUBLIC);
            if (!isPublic && !e.getModifiers().contains(Modifier.PRIVATE)) {
                fault(1, member, e + " is neither public nor private");
            }
            if (!isPublic && e.getKind() == ElementKind.METHOD && publicNames.contains(e.getSimpleName().toString())) {
                fault(1, member, e + " bears the name of a public one");
            }
        }

        @Override
        public Void visitMethod(MethodTree node, Void v) {
            Element e = element();
            calls.computeIfAbsent(e, x -> new LinkedHashSet<>());
            if (node.getParameters().size() > MOST_PARAMETERS) {
                fault(11, node, node.getName() + " has too many parameters");
            }
            long first = unit.getLineMap().getLineNumber(places.getStartPosition(unit, node));
            long last = unit.getLineMap().getLineNumber(Math.max(places.getStartPosition(unit, node),
                places.getEndPosition(unit, node)));
            if (last - first >= MOST_LINES) {
                fault(11, node, node.getName() + " is too long");
            }
            if (Set.of("equals", "hashCode", "toString").contains(node.getName().toString())) {
                fault(6, node, node.getName() + " of an own object");
            }
            if (node.getReturnType() != null) {
                type(node.getReturnType());
            }
            return super.visitMethod(node, v);
        }

        private void type(Tree tree) {
            TypeMirror t = typeOf(tree);
            if (t != null && !isAllowed(t)) {
                fault(3, tree, "the type " + t);
            }
        }

        private boolean isAllowed(TypeMirror t) {
            if (t.getKind() == TypeKind.ARRAY) {
                TypeMirror part = ((ArrayType) t).getComponentType();
                if (part.getKind() == TypeKind.ARRAY) {
                    TypeKind inner = ((ArrayType) part).getComponentType().getKind();
                    return inner.isPrimitive() && inner != TypeKind.BOOLEAN;
                }
                return isAllowed(part) && (part.getKind().isPrimitive() || isOwnType(part));
            }
            if (t.getKind() == TypeKind.DECLARED) {
                return isOwnType(t) || TYPES.contains(((TypeElement) ((DeclaredType) t).asElement())
                    .getQualifiedName().toString());
            }
            return t.getKind() != TypeKind.DOUBLE && t.getKind() != TypeKind.FLOAT;
        }

        private boolean isOwnType(TypeMirror t) {
            return t.getKind() == TypeKind.DECLARED && isOwn(((DeclaredType) t).asElement());
        }

        @Override
        public Void visitVariable(VariableTree node, Void v) {
            if (node.getType() != null) {
                type(node.getType());
            }
            Element e = element();
            if (e.getKind() == ElementKind.FIELD && e.getModifiers().contains(Modifier.STATIC)) {
                staticField(node, (VariableElement) e);
            }
            return super.visitVariable(node, v);
        }

        private void staticField(VariableTree node, VariableElement e) {
            boolean row = e.asType().getKind() == TypeKind.ARRAY && node.getInitializer() instanceof NewArrayTree
                && ((NewArrayTree) node.getInitializer()).getDimensions().isEmpty();
            if (!e.getModifiers().contains(Modifier.FINAL) || e.getConstantValue() == null && !row) {
                fault(5, node, node.getName() + " is no constant and no array that is written out");
            }
        }

        /** A static array may be asked for an item, copied from, and asked for its length. */
        @Override
        public Void visitIdentifier(IdentifierTree node, Void v) {
            Element e = element();
            if (e != null && e.getKind() == ElementKind.FIELD && e.getModifiers().contains(Modifier.STATIC)
                && e.asType().getKind() == TypeKind.ARRAY) {
                Tree around = getCurrentPath().getParentPath().getLeaf();
                String text = around.toString();
                boolean read = around instanceof MethodInvocationTree
                    && (text.startsWith("at(" + node) || text.startsWith("copy(" + node + ","));
                if (!read && !text.equals(node + ".length")) {
                    fault(5, node, node + " may be changed: " + text);
                }
            }
            return super.visitIdentifier(node, v);
        }

        @Override
        public Void visitMethodInvocation(MethodInvocationTree node, Void v) {
            Element e = elementOf(node.getMethodSelect());
            if (e == null) {
                fault(4, node, "not understood: " + node);
            } else if (e.getKind() != ElementKind.CONSTRUCTOR) {
                called(e);
                if (!isOwn(e)) {
                    libraryCall(node, e);
                }
            }
            return super.visitMethodInvocation(node, v);
        }

        private void libraryCall(Tree node, Element e) {
            String owner = ((TypeElement) e.getEnclosingElement()).getQualifiedName().toString();
            if (!LIBRARY.getOrDefault(owner, Set.of()).contains(e.getSimpleName().toString())) {
                fault(4, node, "calls " + owner + "." + e.getSimpleName());
            }
        }

        private void called(Element e) {
            if (method() != null) {
                Element from = trees.getElement(trees.getPath(unit, method()));
                calls.computeIfAbsent(from, x -> new LinkedHashSet<>()).add(e);
            }
        }

        /** How many calls stand open at once from here on, this one and the library's counted. */
        private int depth(Element e) {
            if (depths.containsKey(e)) {
                return depths.get(e);
            }
            if (open.contains(e)) {
                fault(8, unit, e + " calls itself");
                return 0;
            }
            open.push(e);
            int below = 0;
            for (Element next : calls.getOrDefault(e, Set.of())) {
                below = Math.max(below, depth(next));
            }
            open.pop();
            if (below + 1 > DEEPEST) {
                fault(11, unit, e + " calls " + (below + 1) + " deep");
            }
            depths.put(e, below + 1);
            return below + 1;
        }

        @Override
        public Void visitNewClass(NewClassTree node, Void v) {
            Element e = element();
            boolean made = method() == null || method().getReturnType() == null;
            if (!made) {
                fault(12, node, "made in a call: " + node);
            }
            if (e != null && !isOwn(e)) {
                fault(4, node, "makes " + node);
            } else if (e != null) {
                called(e);
            }
            return super.visitNewClass(node, v);
        }

        @Override
        public Void visitNewArray(NewArrayTree node, Void v) {
            if (method() != null && method().getReturnType() != null) {
                fault(12, node, "made in a call: " + node);
            }
            for (ExpressionTree length : node.getDimensions()) {
                if (!isConstant(length)) {
                    fault(7, node, "a length that was not looked at: " + length);
                }
            }
            return super.visitNewArray(node, v);
        }

        private boolean isConstant(Tree tree) {
            if (tree instanceof ParenthesizedTree) {
                return isConstant(((ParenthesizedTree) tree).getExpression());
            }
            if (tree instanceof BinaryTree) {
                return isConstant(((BinaryTree) tree).getLeftOperand())
                    && isConstant(((BinaryTree) tree).getRightOperand());
            }
            Element e = tree instanceof IdentifierTree ? elementOf(tree) : null;
            return tree instanceof LiteralTree
                || e instanceof VariableElement && ((VariableElement) e).getConstantValue() != null;
        }

        @Override
        public Void visitArrayAccess(ArrayAccessTree node, Void v) {
            String body = method() == null ? "" : method().toString();
            String i = node.getIndex().toString();
            boolean high = body.contains(i + " < " + node.getExpression() + ".length");
            boolean low = body.contains(i + " >= 0") || body.contains("int " + i + " = 0");
            if (!high || !low) {
                fault(7, node, "an index that was not looked at: " + node);
            }
            return super.visitArrayAccess(node, v);
        }

        @Override
        public Void visitBinary(BinaryTree node, Void v) {
            Tree.Kind kind = node.getKind();
            if (kind == Tree.Kind.DIVIDE || kind == Tree.Kind.REMAINDER) {
                divisor(node.getRightOperand());
            }
            boolean texts = isText(node.getLeftOperand()) || isText(node.getRightOperand());
            if (texts && kind == Tree.Kind.PLUS) {
                fault(10, node, "texts joined by +");
            }
            if (texts && (kind == Tree.Kind.EQUAL_TO || kind == Tree.Kind.NOT_EQUAL_TO)) {
                fault(6, node, "texts or Integers compared by " + node);
            }
            return super.visitBinary(node, v);
        }

        private boolean isText(Tree tree) {
            TypeMirror t = typeOf(tree);
            return t != null && Set.of("java.lang.String", "java.lang.Integer").contains(t.toString());
        }

        @Override
        public Void visitCompoundAssignment(CompoundAssignmentTree node, Void v) {
            Tree.Kind kind = node.getKind();
            if (kind == Tree.Kind.DIVIDE_ASSIGNMENT || kind == Tree.Kind.REMAINDER_ASSIGNMENT) {
                divisor(node.getExpression());
            }
            if (isText(node.getVariable())) {
                fault(10, node, "texts joined by +=");
            }
            return super.visitCompoundAssignment(node, v);
        }

        /** Constants that are not 0, and variables that the method compares with something. */
        private void divisor(Tree tree) {
            String body = method() == null ? "" : method().toString();
            Reader reader = this;
            new TreeScanner<Void, Void>() {
                @Override
                public Void visitIdentifier(IdentifierTree node, Void v) {
                    boolean compared = Pattern.compile("\\b" + node + " (<|<=|>|>=|==|!=) ").matcher(body).find();
                    if (!compared && !reader.isConstant(node)) {
                        fault(7, node, "a divisor that was not looked at: " + tree);
                    }
                    return null;
                }

                @Override
                public Void visitLiteral(LiteralTree node, Void v) {
                    if (node.toString().equals("0")) {
                        fault(7, node, "a divisor that is 0");
                    }
                    return null;
                }

                @Override
                public Void visitMethodInvocation(MethodInvocationTree node, Void v) {
                    fault(7, node, "a divisor that was not looked at: " + tree);
                    return null;
                }
            }.scan(tree, null);
        }

        @Override
        public Void visitForLoop(ForLoopTree node, Void v) {
            if (node.getCondition() == null || node.getUpdate().isEmpty() || node.getInitializer().isEmpty()) {
                fault(9, node, "a loop without an end that can be seen");
                return super.visitForLoop(node, v);
            }
            for (Tree start : node.getInitializer()) {
                if (start instanceof VariableTree && changes(node.getStatement(), ((VariableTree) start).getName())) {
                    fault(9, node, "a loop that changes its own counter");
                }
            }
            return super.visitForLoop(node, v);
        }

        private static boolean changes(Tree body, CharSequence name) {
            boolean[] found = {false};
            new TreeScanner<Void, Void>() {
                private void look(Tree changed) {
                    found[0] |= changed.toString().contentEquals(name);
                }

                @Override
                public Void visitAssignment(AssignmentTree node, Void v) {
                    look(node.getVariable());
                    return super.visitAssignment(node, v);
                }

                @Override
                public Void visitCompoundAssignment(CompoundAssignmentTree node, Void v) {
                    look(node.getVariable());
                    return super.visitCompoundAssignment(node, v);
                }

                @Override
                public Void visitUnary(UnaryTree node, Void v) {
                    if (node.getKind().name().endsWith("CREMENT")) {
                        look(node.getExpression());
                    }
                    return super.visitUnary(node, v);
                }
            }.scan(body, null);
            return found[0];
        }

        @Override
        public Void visitTypeCast(TypeCastTree node, Void v) {
            type(node.getType());
            if (!typeOf(node.getType()).getKind().isPrimitive()) {
                fault(6, node, "a cast of an object: " + node);
            }
            return super.visitTypeCast(node, v);
        }

        @Override
        public Void visitWhileLoop(WhileLoopTree node, Void v) {
            fault(9, node, "while");
            return super.visitWhileLoop(node, v);
        }

        @Override
        public Void visitDoWhileLoop(DoWhileLoopTree node, Void v) {
            fault(9, node, "do");
            return super.visitDoWhileLoop(node, v);
        }

        @Override
        public Void visitLambdaExpression(LambdaExpressionTree node, Void v) {
            fault(2, node, "a lambda");
            return super.visitLambdaExpression(node, v);
        }

        @Override
        public Void visitMemberReference(MemberReferenceTree node, Void v) {
            fault(2, node, "a method reference");
            return super.visitMemberReference(node, v);
        }

        @Override
        public Void visitThrow(ThrowTree node, Void v) {
            fault(6, node, "throw");
            return super.visitThrow(node, v);
        }

        @Override
        public Void visitTry(TryTree node, Void v) {
            fault(6, node, "try");
            return super.visitTry(node, v);
        }

        @Override
        public Void visitSynchronized(SynchronizedTree node, Void v) {
            fault(6, node, "synchronized");
            return super.visitSynchronized(node, v);
        }

        @Override
        public Void visitAssert(AssertTree node, Void v) {
            fault(6, node, "assert");
            return super.visitAssert(node, v);
        }
    }

    private static List<String> faultsOf(String source) throws IOException {
        URI name = URI.create("string:///SnakedBus.java");
        JavaFileObject file = new SimpleJavaFileObject(name, JavaFileObject.Kind.SOURCE) {
            @Override
            public CharSequence getCharContent(boolean ignored) {
                return source;
            }
        };
        List<String> faults = new ArrayList<>();
        JavacTask task = (JavacTask) ToolProvider.getSystemJavaCompiler().getTask(null, null,
            d -> faults.add("javac: " + d.getMessage(null)), List.of("-proc:none"), null, List.of(file));
        CompilationUnitTree unit = task.parse().iterator().next();
        task.analyze();
        if (!faults.isEmpty()) {
            return faults;
        }
        Reader reader = new Reader(unit, Trees.instance(task));
        reader.read();
        for (char c : source.toCharArray()) {
            if (c != '\n' && (c < 32 || c > 126)) {
                reader.faults.add("rule 4, the sign " + (int) c);
            }
        }
        return reader.faults;
    }

    private static int broken(String rule, String how, String source) throws IOException {
        List<String> faults = faultsOf(source);
        for (String fault : faults) {
            if (fault.startsWith("rule " + rule + ",")) {
                return 0;
            }
        }
        System.out.println("rule " + rule + " is broken and was not found: " + how + " " + faults);
        return 1;
    }

    public static void main(String[] args) throws IOException {
        String source = Files.readString(SOURCE);
        int wrong = 0;
        for (String fault : faultsOf(source)) {
            System.out.println(fault);
            wrong++;
        }
        String open = source.substring(0, source.lastIndexOf('}'));
        for (String[] one : BROKEN) {
            wrong += broken(one[0], one[1], open + one[1] + "\n}\n");
        }
        for (String[] one : BROKEN_AROUND) {
            wrong += broken(one[0], one[1] + one[2], one[1] + source + one[2]);
        }
        System.out.println(BROKEN.length + BROKEN_AROUND.length + " broken rules looked for, " + wrong + " wrong");
        if (wrong != 0) {
            System.exit(1);
        }
    }
}
