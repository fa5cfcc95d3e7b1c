import com.sun.source.tree.*;
import com.sun.source.util.JavacTask;
import com.sun.source.util.SourcePositions;
import com.sun.source.util.TreePath;
import com.sun.source.util.TreePathScanner;
import com.sun.source.util.Trees;
import java.io.File;
import java.nio.charset.StandardCharsets;
import java.util.ArrayList;
import java.util.HashMap;
import java.util.HashSet;
import java.util.LinkedHashMap;
import java.util.List;
import java.util.Map;
import java.util.Set;
import java.util.TreeSet;
import javax.lang.model.element.Element;
import javax.lang.model.element.ElementKind;
import javax.lang.model.element.ExecutableElement;
import javax.lang.model.element.Modifier;
import javax.lang.model.type.ArrayType;
import javax.lang.model.type.TypeKind;
import javax.lang.model.type.TypeMirror;
import javax.tools.JavaCompiler;
import javax.tools.StandardJavaFileManager;
import javax.tools.ToolProvider;

/** The source keeps to the rules of LANGUAGE.md, as far as the compiler's own tree of it can show. */
public final class LanguageTest {
    private static final Set<String> LIBRARY = Set.of(
        "java.lang.Math.max(int,int)", "java.lang.Math.min(int,int)",
        "java.util.Arrays.fill(int[],int)", "java.util.Arrays.copyOf(int[],int)",
        "java.lang.System.arraycopy(java.lang.Object,int,java.lang.Object,int,int)",
        "java.lang.String.length()", "java.lang.String.charAt(int)", "java.lang.String.indexOf(int)");
    private static final Set<Tree.Kind> FORBIDDEN = Set.of(
        Tree.Kind.THROW, Tree.Kind.TRY, Tree.Kind.CATCH, Tree.Kind.SYNCHRONIZED, Tree.Kind.ASSERT, Tree.Kind.LAMBDA_EXPRESSION,
        Tree.Kind.MEMBER_REFERENCE, Tree.Kind.FLOAT_LITERAL, Tree.Kind.DOUBLE_LITERAL, Tree.Kind.INSTANCE_OF);
    private static final Set<String> RECURSIVE = Set.of("CreweChange.Tape.readLevel", "CreweChange.Tape.readPiece");
    private static final int MOST_LINES = 60, MOST_DEEP = 8, MOST_PARAMETERS = 7, MOST_CLASSES = 12, MOST_FIELDS = 20;
    private static int wrong = 0;

    public static void main(String[] args) throws Exception {
        JavaCompiler compiler = ToolProvider.getSystemJavaCompiler();
        try (StandardJavaFileManager files = compiler.getStandardFileManager(null, null, StandardCharsets.US_ASCII)) {
            JavacTask task = (JavacTask) compiler.getTask(null, files, null, List.of("-proc:none"), null,
                files.getJavaFileObjects(new File("src/main/java/CreweChange.java")));
            CompilationUnitTree unit = task.parse().iterator().next();
            task.analyze();
            Rules rules = new Rules(Trees.instance(task), unit);
            rules.scan(unit, null);
            rules.finish();
        }
        System.out.println(wrong == 0 ? "the source keeps to the rules" : wrong + " faults in the source");
        if (wrong != 0) System.exit(1);
    }

    private static void due(boolean stands, String what) {
        if (!stands) {
            wrong++;
            System.out.println("not as due: " + what);
        }
    }

    private static final class Rules extends TreePathScanner<Void, Void> {
        private final Trees trees;
        private final CompilationUnitTree unit;
        private final Map<String, Set<String>> calls = new LinkedHashMap<>();
        private final Map<String, Integer> deep = new HashMap<>();
        private int classes = 0;
        private String method = "";

        Rules(Trees trees, CompilationUnitTree unit) {
            this.trees = trees;
            this.unit = unit;
        }

        private long line(Tree tree) {
            return unit.getLineMap().getLineNumber(trees.getSourcePositions().getStartPosition(unit, tree));
        }

        private Element element(Tree tree) {
            return trees.getElement(new TreePath(getCurrentPath(), tree));
        }

        private static boolean isOwn(Element e) {
            return e != null && e.toString() != null && owner(e).startsWith("CreweChange");
        }

        private static String owner(Element e) {
            return e.getEnclosingElement() == null ? "" : e.getEnclosingElement().toString();
        }

        private static String nameOf(Element e) {
            return owner(e) + "." + e.getSimpleName();
        }

        @Override
        public Void scan(Tree tree, Void v) {
            if (tree != null && FORBIDDEN.contains(tree.getKind())) due(false, "line " + line(tree) + " has " + tree.getKind());
            return super.scan(tree, v);
        }

        @Override
        public Void visitClass(ClassTree node, Void v) {
            classes++;
            Element e = trees.getElement(getCurrentPath());
            boolean outer = e.getSimpleName().contentEquals("CreweChange");
            due(outer || e.getEnclosingElement().getKind() == ElementKind.CLASS, "a class inside a method: line " + line(node));
            due(outer || (e.getModifiers().contains(Modifier.STATIC) && !e.getModifiers().contains(Modifier.PUBLIC)), "not static: " + e);
            int fields = 0;
            Set<String> open = new HashSet<>();
            for (Element m : e.getEnclosedElements()) {
                if (m.getKind() == ElementKind.FIELD && !m.getModifiers().contains(Modifier.STATIC)) fields++;
                if (m.getKind() == ElementKind.METHOD && m.getModifiers().contains(Modifier.PUBLIC)) open.add(m.getSimpleName().toString());
            }
            for (Element m : e.getEnclosedElements())
                due(!m.getModifiers().contains(Modifier.PRIVATE) || m.getKind() != ElementKind.METHOD || !open.contains(m.getSimpleName().toString()), "bears a public name: " + m);
            due(fields <= MOST_FIELDS, e + " has " + fields + " fields");
            for (Tree member : node.getMembers()) due(member.getKind() != Tree.Kind.BLOCK, "an initialiser block in " + e);
            return super.visitClass(node, v);
        }

        @Override
        public Void visitMethod(MethodTree node, Void v) {
            String before = method;
            method = nameOf(trees.getElement(getCurrentPath()));
            calls.computeIfAbsent(method, k -> new TreeSet<>());
            due(node.getParameters().size() <= MOST_PARAMETERS, method + " takes too many");
            due(node.getThrows().isEmpty(), method + " throws");
            SourcePositions at = trees.getSourcePositions();
            long end = at.getEndPosition(unit, node);
            if (end > 0) due(unit.getLineMap().getLineNumber(end) - line(node) < MOST_LINES, method + " is too long");
            super.visitMethod(node, v);
            method = before;
            return null;
        }

        @Override
        public Void visitVariable(VariableTree node, Void v) {
            Element e = trees.getElement(getCurrentPath());
            due(isAllowed(e.asType(), 0), "line " + line(node) + ": type " + e.asType());
            if (e.getModifiers().contains(Modifier.STATIC)) due(isConstant(node, e), "line " + line(node) + ": static " + e);
            return super.visitVariable(node, v);
        }

        private static boolean isConstant(VariableTree node, Element e) {
            String type = e.asType().toString();
            boolean array = type.equals("int[]") && node.getInitializer() instanceof NewArrayTree made && made.getInitializers() != null;
            return e.getModifiers().contains(Modifier.FINAL) && (array || type.equals("int") || type.equals("String"));
        }

        private static boolean isAllowed(TypeMirror type, int depth) {
            if (type.getKind() == TypeKind.ARRAY) return depth == 0 && isAllowed(((ArrayType) type).getComponentType(), 1);
            if (type.getKind().isPrimitive()) return type.getKind() != TypeKind.FLOAT && type.getKind() != TypeKind.DOUBLE;
            return type.toString().startsWith("CreweChange.") || (depth == 0 && type.toString().equals("java.lang.String"));
        }

        @Override
        public Void visitMethodInvocation(MethodInvocationTree node, Void v) {
            Element e = trees.getElement(new TreePath(getCurrentPath(), node.getMethodSelect()));
            if (isOwn(e)) calls.get(method).add(nameOf(e));
            else if (!node.getMethodSelect().toString().equals("super")) due(e instanceof ExecutableElement && LIBRARY.contains(nameOf(e) + parameters(e)), "line " + line(node) + " calls " + e);
            return super.visitMethodInvocation(node, v);
        }

        private static String parameters(Element e) {
            List<String> types = new ArrayList<>();
            for (Element p : ((ExecutableElement) e).getParameters()) types.add(p.asType().toString());
            return "(" + String.join(",", types) + ")";
        }

        @Override
        public Void visitNewClass(NewClassTree node, Void v) {
            due(node.getClassBody() == null, "an anonymous class: line " + line(node));
            Element e = element(node);
            due(isOwn(e), "line " + line(node) + " makes " + node.getIdentifier());
            return super.visitNewClass(node, v);
        }

        @Override
        public Void visitWhileLoop(WhileLoopTree node, Void v) {
            due(node.getCondition().toString().contains(" < "), "a while without a bound: line " + line(node));
            return super.visitWhileLoop(node, v);
        }

        @Override
        public Void visitForLoop(ForLoopTree node, Void v) {
            boolean bound = node.getCondition() != null && node.getCondition().toString().matches("(?s).*( < | <= | >= ).*");
            due(bound && node.getUpdate().size() == 1, "a for without a bound: line " + line(node));
            return super.visitForLoop(node, v);
        }

        /** Deep: how many calls stand open at most, those of a recursion once. */
        void finish() {
            due(classes <= MOST_CLASSES, classes + " classes");
            Set<String> loops = new TreeSet<>();
            for (String m : calls.keySet()) if (reaches(m, m, new HashSet<>())) loops.add(m);
            due(loops.equals(RECURSIVE), "recursion in " + loops);
            for (String m : calls.keySet()) due(deepOf(m, new HashSet<>()) <= MOST_DEEP, m + " goes " + deepOf(m, new HashSet<>()) + " deep");
        }

        private boolean reaches(String from, String to, Set<String> been) {
            for (String next : calls.getOrDefault(from, Set.of()))
                if (next.equals(to) || (been.add(next) && reaches(next, to, been))) return true;
            return false;
        }

        private int deepOf(String m, Set<String> open) {
            Integer known = deep.get(m);
            if (known != null) return known;
            if (!open.add(m)) return 0;
            int most = 0;
            for (String next : calls.getOrDefault(m, Set.of())) most = Math.max(most, deepOf(next, open));
            open.remove(m);
            if (open.isEmpty() || !RECURSIVE.contains(m)) deep.put(m, most + 1);
            return most + 1;
        }
    }
}
