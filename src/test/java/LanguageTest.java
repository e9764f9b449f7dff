import com.sun.source.tree.*;
import com.sun.source.util.JavacTask;
import com.sun.source.util.TreePath;
import com.sun.source.util.TreePathScanner;
import com.sun.source.util.Trees;
import java.io.File;
import java.lang.reflect.Constructor;
import java.lang.reflect.Field;
import java.lang.reflect.Method;
import java.lang.reflect.Modifier;
import java.util.ArrayList;
import java.util.LinkedHashMap;
import java.util.LinkedHashSet;
import java.util.List;
import java.util.Map;
import java.util.Set;
import java.util.TreeSet;
import javax.lang.model.element.Element;
import javax.lang.model.element.ElementKind;
import javax.lang.model.element.ExecutableElement;
import javax.tools.JavaCompiler;
import javax.tools.JavaFileObject;
import javax.tools.StandardJavaFileManager;
import javax.tools.ToolProvider;

/** Holds the source against the rules of LANGUAGE.md that can be seen from its tree, and the face against the document's. */
public final class LanguageTest {
    private static int wrong = 0;

    private static void fault(String rule, String what) {
        wrong++;
        System.out.println("rule " + rule + ": " + what);
    }

    private static final Set<String> FACE = Set.of(
        "int man(int,int,int)", "int set(int,int,int)", "int told(int,int)", "int mends(int,int)", "int feed(int)",
        "int text()", "int force(int)", "int round()", "int run(int,int)", "int beat(int,int)", "int holds()", "int bar(int)",
        "int order(int)", "int home()", "int turn()", "int when()", "int stop(int)", "int fewest(int)", "int judge(int,int)",
        "int slow(int)", "int drawn(int,int)", "long once(int,int)", "int image()", "int back()", "int count(int)",
        "int sheet(int,int,int)", "int cell(int,int,int)", "int copy(int,int,int,int,int)", "int men(int,int,int,int)",
        "int taken(int,int)");

    private static final Set<String> LIBRARY = Set.of(
        "String.length", "String.charAt", "System.arraycopy", "Math.max", "Math.min");

    private static void face() {
        Set<String> seen = new TreeSet<>();
        Set<String> publicNames = new TreeSet<>();
        for (Method m : FourFlails.class.getDeclaredMethods()) {
            if (Modifier.isPrivate(m.getModifiers()) || m.isSynthetic()) continue;
            List<String> types = new ArrayList<>();
            for (Class<?> t : m.getParameterTypes()) types.add(t.getName());
            seen.add(m.getReturnType().getName() + " " + m.getName() + "(" + String.join(",", types) + ")");
            publicNames.add(m.getName());
            if (m.getModifiers() != Modifier.PUBLIC) fault("1", m + " is not just public");
        }
        if (!seen.equals(new TreeSet<>(FACE))) fault("1", "the face is " + seen);
        for (Method m : FourFlails.class.getDeclaredMethods()) {
            if (Modifier.isPrivate(m.getModifiers()) && publicNames.contains(m.getName())) fault("1", m + " bears a public name");
        }
        Set<String> constants = new TreeSet<>();
        for (Field f : FourFlails.class.getDeclaredFields()) {
            if (!Modifier.isPrivate(f.getModifiers())) constants.add(f.getType() + " " + f.getName());
            if (Modifier.isStatic(f.getModifiers()) && !Modifier.isFinal(f.getModifiers())) fault("5", f + " is not final");
        }
        if (!constants.equals(new TreeSet<>(Set.of("int NONE", "int BAD", "int STATE", "int FULL", "long NO")))) fault("1", "constants are " + constants);
        Constructor<?>[] made = FourFlails.class.getDeclaredConstructors();
        if (made.length != 1 || made[0].getParameterCount() != 0 || !Modifier.isPublic(made[0].getModifiers())) fault("1", "the constructor");
        if (!Modifier.isFinal(FourFlails.class.getModifiers()) || !Modifier.isPublic(FourFlails.class.getModifiers())) fault("1", "public final");
        Class<?>[] inside = FourFlails.class.getDeclaredClasses();
        if (inside.length > 11) fault("11", inside.length + " classes inside");
        for (Class<?> c : inside) {
            if (!Modifier.isStatic(c.getModifiers())) fault("2", c + " is not static");
            if (Modifier.isPublic(c.getModifiers()) || Modifier.isProtected(c.getModifiers())) fault("1", c + " is public");
            for (Method m : c.getDeclaredMethods()) if (publicNames.contains(m.getName())) fault("1", m + " bears a public name");
            int own = 0;
            for (Field f : c.getDeclaredFields()) {
                if (!Modifier.isStatic(f.getModifiers())) own++;
                else if (!Modifier.isFinal(f.getModifiers())) fault("5", f + " is not final");
            }
            if (own > 20) fault("11", c + " has " + own + " fields");
        }
    }

    /** What the tree holds that the rules leave out, and who calls whom. */
    private static final class Scan extends TreePathScanner<Void, Void> {
        final Trees trees;
        final CompilationUnitTree unit;
        final Map<String, Set<String>> calls = new LinkedHashMap<>();
        String in = "";

        Scan(Trees trees, CompilationUnitTree unit) {
            this.trees = trees;
            this.unit = unit;
        }

        long line(long position) { return unit.getLineMap().getLineNumber(position); }

        void refuse(String rule, Tree t) {
            fault(rule, "line " + line(trees.getSourcePositions().getStartPosition(unit, t)) + ": " + t.getKind());
        }

        static String nameOf(Element e) { return e.getEnclosingElement().getSimpleName() + "." + e.toString(); }

        @Override public Void visitThrow(ThrowTree t, Void v) { refuse("6", t); return super.visitThrow(t, v); }
        @Override public Void visitTry(TryTree t, Void v) { refuse("6", t); return super.visitTry(t, v); }
        @Override public Void visitSynchronized(SynchronizedTree t, Void v) { refuse("6", t); return super.visitSynchronized(t, v); }
        @Override public Void visitAssert(AssertTree t, Void v) { refuse("6", t); return super.visitAssert(t, v); }
        @Override public Void visitLambdaExpression(LambdaExpressionTree t, Void v) { refuse("2", t); return super.visitLambdaExpression(t, v); }
        @Override public Void visitMemberReference(MemberReferenceTree t, Void v) { refuse("2", t); return super.visitMemberReference(t, v); }
        @Override public Void visitSwitchExpression(SwitchExpressionTree t, Void v) { refuse("10", t); return super.visitSwitchExpression(t, v); }
        @Override public Void visitImport(ImportTree t, Void v) { refuse("4", t); return super.visitImport(t, v); }
        @Override public Void visitLiteral(LiteralTree t, Void v) {
            if (t.getValue() instanceof String s) {
                for (int k = 0; k < s.length(); k++) if (s.charAt(k) < 1 || s.charAt(k) > 127) refuse("4", t);
            }
            return super.visitLiteral(t, v);
        }

        @Override public Void visitClass(ClassTree t, Void v) {
            if (getCurrentPath().getParentPath().getLeaf() instanceof NewClassTree || t.getSimpleName().length() == 0) refuse("2", t);
            for (Tree m : t.getMembers()) if (m.getKind() == Tree.Kind.BLOCK) refuse("5", m);
            return super.visitClass(t, v);
        }

        @Override public Void visitMethod(MethodTree t, Void v) {
            long from = line(trees.getSourcePositions().getStartPosition(unit, t));
            long to = line(trees.getSourcePositions().getEndPosition(unit, t));
            if (to - from > 60) fault("11", t.getName() + " has " + (to - from) + " lines");
            if (t.getParameters().size() > 7) fault("11", t.getName() + " takes too much");
            String was = in;
            in = nameOf(trees.getElement(getCurrentPath()));
            calls.putIfAbsent(in, new LinkedHashSet<>());
            super.visitMethod(t, v);
            in = was;
            return null;
        }

        private void called(Element e) {
            if (!(e instanceof ExecutableElement)) return;
            String owner = e.getEnclosingElement().toString();
            if (owner.startsWith("FourFlails")) {
                if (!in.isEmpty()) calls.get(in).add(nameOf(e));
            } else if (e.getKind() != ElementKind.CONSTRUCTOR) {
                String name = e.getEnclosingElement().getSimpleName() + "." + e.getSimpleName();
                if (!LIBRARY.contains(name)) fault("4", name + " is called in " + in);
                if (!in.isEmpty()) calls.get(in).add(name);
            }
        }

        @Override public Void visitMethodInvocation(MethodInvocationTree t, Void v) {
            called(trees.getElement(new TreePath(getCurrentPath(), t.getMethodSelect())));
            return super.visitMethodInvocation(t, v);
        }

        @Override public Void visitNewClass(NewClassTree t, Void v) {
            called(trees.getElement(getCurrentPath()));
            made(t);
            return super.visitNewClass(t, v);
        }

        private String typeOf(Tree t) { return String.valueOf(trees.getTypeMirror(new TreePath(getCurrentPath(), t))); }

        @Override public Void visitBinary(BinaryTree t, Void v) {
            boolean like = t.getKind() == Tree.Kind.EQUAL_TO || t.getKind() == Tree.Kind.NOT_EQUAL_TO;
            if (t.getKind() == Tree.Kind.PLUS && trees.getTypeMirror(getCurrentPath()).toString().equals("java.lang.String")) refuse("10", t);
            if (like && typeOf(t.getLeftOperand()).equals("java.lang.String")) refuse("6", t);
            return super.visitBinary(t, v);
        }

        @Override public Void visitVariable(VariableTree t, Void v) {
            String type = typeOf(t.getType());
            if (!type.matches("(int|long|boolean|java\\.lang\\.String|FourFlails\\.\\w+)|(int|FourFlails\\.\\w+)\\[\\]")) refuse("3", t);
            return super.visitVariable(t, v);
        }

        @Override public Void visitTypeCast(TypeCastTree t, Void v) {
            if (!typeOf(t.getType()).matches("int|long|short|byte|char")) refuse("6", t);
            return super.visitTypeCast(t, v);
        }

        @Override public Void visitSwitch(SwitchTree t, Void v) {
            if (!typeOf(t.getExpression()).equals("int")) refuse("10", t);
            return super.visitSwitch(t, v);
        }

        private void written(Tree t) {
            if (!(t instanceof ArrayAccessTree a)) return;
            Element e = trees.getElement(new TreePath(new TreePath(getCurrentPath(), a), a.getExpression()));
            if (e != null && e.getModifiers().contains(javax.lang.model.element.Modifier.STATIC)) refuse("5", t);
        }

        @Override public Void visitAssignment(AssignmentTree t, Void v) { written(t.getVariable()); return super.visitAssignment(t, v); }
        @Override public Void visitCompoundAssignment(CompoundAssignmentTree t, Void v) { written(t.getVariable()); return super.visitCompoundAssignment(t, v); }
        @Override public Void visitUnary(UnaryTree t, Void v) { written(t.getExpression()); return super.visitUnary(t, v); }

        /** What is made in a constructor's loop is counted with the object; nothing else is made in a loop. */
        private void made(Tree t) {
            for (TreePath p = getCurrentPath(); p != null; p = p.getParentPath()) {
                Tree.Kind k = p.getLeaf().getKind();
                if (p.getLeaf() instanceof MethodTree) return;
                boolean loop = k == Tree.Kind.FOR_LOOP || k == Tree.Kind.WHILE_LOOP || k == Tree.Kind.DO_WHILE_LOOP || k == Tree.Kind.ENHANCED_FOR_LOOP;
                if (loop && !in.contains("FourFlails.FourFlails(")) refuse("12", t);
            }
        }

        @Override public Void visitNewArray(NewArrayTree t, Void v) {
            made(t);
            return super.visitNewArray(t, v);
        }
    }

    private static boolean reaches(Map<String, Set<String>> calls, String from, String to, Set<String> seen) {
        for (String n : calls.getOrDefault(from, Set.of())) {
            if (n.equals(to) || seen.add(n) && reaches(calls, n, to, seen)) return true;
        }
        return false;
    }

    /** Methods that call one another in a ring count as one level: what rule 8 bounds, rule 11 does not. */
    private static int deep(Map<String, Set<String>> calls, String from, Set<String> open) {
        int most = 0;
        for (String n : calls.getOrDefault(from, Set.of())) {
            if (open.contains(n)) continue;
            boolean ring = reaches(calls, n, from, new LinkedHashSet<>());
            open.add(n);
            int d = deep(calls, n, open) - (ring ? 1 : 0);
            open.remove(n);
            most = Math.max(most, d);
        }
        return most + 1;
    }

    /** The grammar's methods call one another, each with the depth as its argument; no others do. */
    private static void rings(Map<String, Set<String>> calls) {
        Set<String> rings = new TreeSet<>();
        for (String m : calls.keySet()) if (reaches(calls, m, m, new LinkedHashSet<>())) rings.add(m);
        Set<String> grammar = Set.of("Reader.either(int)", "Reader.both(int)", "Reader.denied(int)", "Reader.sum(int)", "Reader.term(int)", "Reader.one(int)");
        if (!rings.equals(new TreeSet<>(grammar))) fault("8", "these call themselves: " + rings);
    }

    private static void tree(String source) throws Exception {
        JavaCompiler compiler = ToolProvider.getSystemJavaCompiler();
        try (StandardJavaFileManager files = compiler.getStandardFileManager(null, null, null)) {
            Iterable<? extends JavaFileObject> units = files.getJavaFileObjects(new File(source));
            JavacTask task = (JavacTask) compiler.getTask(null, files, null, List.of("-proc:none"), null, units);
            for (CompilationUnitTree unit : task.parse()) {
                task.analyze();
                if (unit.getPackage() != null || unit.getTypeDecls().size() != 1) fault("0", "a package line, or more than one class");
                Scan scan = new Scan(Trees.instance(task), unit);
                scan.scan(unit, null);
                if (scan.calls.size() < 60) fault("0", "the tree was not read: " + scan.calls.keySet());
                rings(scan.calls);
                int most = 0;
                for (String m : scan.calls.keySet()) {
                    int d = deep(scan.calls, m, new LinkedHashSet<>(Set.of(m)));
                    most = Math.max(most, d);
                    if (d > 8) fault("11", m + " goes " + d + " deep");
                }
                System.out.println("calls go " + most + " deep");
            }
        }
    }

    private static void oneFile(String source) {
        String[] files = new File(source).getAbsoluteFile().getParentFile().list();
        if (files == null || files.length != 1) fault("0", "beside the class there stands more");
    }

    public static void main(String[] args) throws Exception {
        face();
        oneFile(args.length > 0 ? args[0] : "src/main/java/FourFlails.java");
        tree(args.length > 0 ? args[0] : "src/main/java/FourFlails.java");
        System.out.println(wrong == 0 ? "the source keeps to the rules that were looked at" : wrong + " faults");
        if (wrong != 0) System.exit(1);
    }
}
