import com.sun.source.tree.AnnotationTree;
import com.sun.source.tree.AssertTree;
import com.sun.source.tree.BinaryTree;
import com.sun.source.tree.ClassTree;
import com.sun.source.tree.CompilationUnitTree;
import com.sun.source.tree.LambdaExpressionTree;
import com.sun.source.tree.MemberReferenceTree;
import com.sun.source.tree.MethodInvocationTree;
import com.sun.source.tree.MethodTree;
import com.sun.source.tree.NewArrayTree;
import com.sun.source.tree.NewClassTree;
import com.sun.source.tree.SynchronizedTree;
import com.sun.source.tree.ThrowTree;
import com.sun.source.tree.Tree;
import com.sun.source.tree.TryTree;
import com.sun.source.tree.VariableTree;
import com.sun.source.util.JavacTask;
import com.sun.source.util.SourcePositions;
import com.sun.source.util.TreePathScanner;
import com.sun.source.util.Trees;
import java.io.IOException;
import java.nio.file.Path;
import java.util.ArrayDeque;
import java.util.Deque;
import java.util.HashMap;
import java.util.LinkedHashMap;
import java.util.LinkedHashSet;
import java.util.List;
import java.util.Map;
import java.util.Set;
import java.util.TreeSet;
import javax.lang.model.element.Element;
import javax.lang.model.element.ElementKind;
import javax.lang.model.element.ExecutableElement;
import javax.lang.model.element.Modifier;
import javax.lang.model.type.TypeKind;
import javax.lang.model.type.TypeMirror;
import javax.tools.JavaCompiler;
import javax.tools.StandardJavaFileManager;
import javax.tools.ToolProvider;

/** The rules of LANGUAGE.md that can be read from the source's tree, each by its number; the trees are the compiler's own. */
public final class RulesTests {
    private static final int MOST_DEEP = 8;
    private static final int MOST_OPEN_CALLS = 300;
    // The brackets and nots that may be open at once, and the eaters that came() goes through, bound all recursion.
    private static final int MOST_LEVELS = 9;
    private static final Set<String> LIBRARY = Set.of("java.lang.String.length", "java.lang.String.charAt", "java.lang.String.isEmpty",
        "java.lang.String.equals", "java.lang.String.indexOf", "java.lang.String.substring", "java.lang.String.toCharArray",
        "java.lang.Math.min", "java.lang.Math.max", "java.lang.Math.abs", "java.lang.Math.floorDiv", "java.lang.Math.floorMod",
        "java.lang.System.arraycopy", "java.util.Arrays.fill", "java.util.Arrays.copyOf", "java.util.Arrays.copyOfRange");
    private static int wrong = 0;

    private static void must(boolean is, String what) {
        if (!is) {
            wrong++;
            System.out.println("not so: " + what);
        }
    }

    // ---- what the tree shows

    private static final class Walk extends TreePathScanner<Void, Void> {
        private final Trees trees;
        private final CompilationUnitTree unit;
        private final SourcePositions places;
        private final Deque<String> inside = new ArrayDeque<>();
        final Map<String, Set<String>> calls = new LinkedHashMap<>();
        final Map<String, Set<Modifier>> modifiers = new HashMap<>();
        final Set<String> makers = new TreeSet<>();
        int classes = 0;

        Walk(Trees trees, CompilationUnitTree unit) {
            this.trees = trees;
            this.unit = unit;
            this.places = trees.getSourcePositions();
        }

        private long line(long place) {
            return unit.getLineMap().getLineNumber(place);
        }

        private String where(Tree tree) {
            return "line " + line(places.getStartPosition(unit, tree));
        }

        private static String name(Element method) {
            return method.getEnclosingElement().getSimpleName() + "." + method.getSimpleName();
        }

        private String here() {
            return inside.isEmpty() ? "fields" : inside.peek();
        }

        private Element element() {
            return trees.getElement(getCurrentPath());
        }

        private void never(Tree tree, String rule, String what) {
            must(false, rule + ": no " + what + ", " + where(tree));
        }

        @Override
        public Void visitClass(ClassTree tree, Void none) {
            classes++;
            Set<Modifier> is = tree.getModifiers().getFlags();
            boolean outer = getCurrentPath().getParentPath().getLeaf() instanceof CompilationUnitTree;
            must(outer || is.contains(Modifier.STATIC), "rule 2: " + tree.getSimpleName() + " is static");
            must(outer || getCurrentPath().getParentPath().getLeaf() instanceof ClassTree, "rule 2: no local class, " + where(tree));
            int fields = 0;
            for (Tree member : tree.getMembers()) {
                boolean field = member instanceof VariableTree v && !v.getModifiers().getFlags().contains(Modifier.STATIC);
                fields += field ? 1 : 0;
                must(member.getKind() != Tree.Kind.BLOCK, "rule 5: no initialiser block, " + where(member));
            }
            must(fields <= 20, "rule 11: " + tree.getSimpleName() + " has " + fields + " fields");
            return super.visitClass(tree, none);
        }

        @Override
        public Void visitMethod(MethodTree tree, Void none) {
            Element method = element();
            String name = name(method);
            long from = places.getStartPosition(unit, tree);
            if (from >= 0) {
                long lines = line(places.getEndPosition(unit, tree)) - line(from) + 1;
                must(lines <= 60, "rule 11: " + name + " has " + lines + " lines");
            }
            must(tree.getParameters().size() <= 7, "rule 11: " + name + " takes " + tree.getParameters().size());
            must(!calls.containsKey(name), "one method bears the name " + name);
            calls.put(name, new LinkedHashSet<>());
            modifiers.put(name, method.getModifiers());
            inside.push(name);
            super.visitMethod(tree, none);
            inside.pop();
            return null;
        }

        @Override
        public Void visitVariable(VariableTree tree, Void none) {
            Element of = element();
            if (of.getKind() == ElementKind.FIELD && of.getModifiers().contains(Modifier.STATIC)) {
                String type = of.asType().toString();
                must(of.getModifiers().contains(Modifier.FINAL), "rule 5: " + of + " is final");
                must(Set.of("int", "long", "boolean", "char", "java.lang.String").contains(type), "rule 5: " + of + " is of " + type);
            }
            must(tree.getType() != null, "rule 3: a type is told, " + where(tree));
            return super.visitVariable(tree, none);
        }

        @Override
        public Void visitMethodInvocation(MethodInvocationTree tree, Void none) {
            ExecutableElement called = (ExecutableElement) element();
            String owner = called.getEnclosingElement().toString();
            if (owner.startsWith("FedStatues")) {
                calls.getOrDefault(here(), new LinkedHashSet<>()).add(name(called));
            } else if (called.getKind() != ElementKind.CONSTRUCTOR) {
                must(LIBRARY.contains(owner + "." + called.getSimpleName()), "rule 4: " + owner + "." + called.getSimpleName() + ", " + where(tree));
            }
            return super.visitMethodInvocation(tree, none);
        }

        @Override
        public Void visitNewClass(NewClassTree tree, Void none) {
            makers.add(here());
            Element made = element();
            must(tree.getClassBody() == null, "rule 2: no anonymous class, " + where(tree));
            must(made.getEnclosingElement().toString().startsWith("FedStatues"), "rule 4: a new " + made + ", " + where(tree));
            return super.visitNewClass(tree, none);
        }

        @Override
        public Void visitNewArray(NewArrayTree tree, Void none) {
            makers.add(here());
            return super.visitNewArray(tree, none);
        }

        @Override
        public Void visitBinary(BinaryTree tree, Void none) {
            TypeMirror type = trees.getTypeMirror(getCurrentPath());
            must(type.getKind() != TypeKind.DECLARED, "rule 10: no text joined by +, " + where(tree));
            return super.visitBinary(tree, none);
        }

        @Override
        public Void visitThrow(ThrowTree tree, Void none) {
            never(tree, "rule 6", "throw");
            return super.visitThrow(tree, none);
        }

        @Override
        public Void visitTry(TryTree tree, Void none) {
            never(tree, "rule 6", "try");
            return super.visitTry(tree, none);
        }

        @Override
        public Void visitSynchronized(SynchronizedTree tree, Void none) {
            never(tree, "rule 6", "synchronized");
            return super.visitSynchronized(tree, none);
        }

        @Override
        public Void visitAssert(AssertTree tree, Void none) {
            never(tree, "rule 6", "assert");
            return super.visitAssert(tree, none);
        }

        @Override
        public Void visitLambdaExpression(LambdaExpressionTree tree, Void none) {
            never(tree, "rule 2", "lambda");
            return super.visitLambdaExpression(tree, none);
        }

        @Override
        public Void visitMemberReference(MemberReferenceTree tree, Void none) {
            never(tree, "rule 2", "method reference");
            return super.visitMemberReference(tree, none);
        }

        @Override
        public Void visitAnnotation(AnnotationTree tree, Void none) {
            never(tree, "rule 4", "annotation");
            return super.visitAnnotation(tree, none);
        }
    }

    // ---- how deep calls go

    private static Map<String, Set<String>> reached(Map<String, Set<String>> calls) {
        Map<String, Set<String>> all = new LinkedHashMap<>();
        for (String from : calls.keySet()) {
            Set<String> found = new LinkedHashSet<>();
            Deque<String> open = new ArrayDeque<>(calls.get(from));
            while (!open.isEmpty()) {
                String next = open.pop();
                if (found.add(next)) {
                    open.addAll(calls.getOrDefault(next, Set.of()));
                }
            }
            all.put(from, found);
        }
        return all;
    }

    private static final class Depth {
        final Map<String, Set<String>> calls;
        final Map<String, Set<String>> reached;
        final Map<String, List<String>> known = new HashMap<>();

        Depth(Map<String, Set<String>> calls) {
            this.calls = calls;
            this.reached = reached(calls);
        }

        boolean together(String a, String b) {
            return a.equals(b) || reached.getOrDefault(a, Set.of()).contains(b) && reached.getOrDefault(b, Set.of()).contains(a);
        }

        boolean recurs(String method) {
            return reached.getOrDefault(method, Set.of()).contains(method);
        }

        /** The longest way down from a method; methods that call one another in a ring stand in it as one. */
        List<String> longest(String method) {
            List<String> way = known.get(method);
            if (way == null) {
                way = List.of();
                for (String member : calls.keySet()) {
                    if (together(method, member)) {
                        for (String next : calls.get(member)) {
                            List<String> below = together(method, next) ? List.of() : longest(next);
                            way = below.size() > way.size() ? below : way;
                        }
                    }
                }
                way = new java.util.ArrayList<>(way);
                way.add(0, recurs(method) ? "(" + method + " ..)" : method);
                known.put(method, way);
            }
            return way;
        }
    }

    private static void depths(Walk walk) {
        Depth depth = new Depth(walk.calls);
        int ring = 0;
        for (String method : walk.calls.keySet()) {
            List<String> way = depth.longest(method);
            must(way.size() <= MOST_DEEP, "rule 11: " + way.size() + " deep: " + String.join(" > ", way));
            if (depth.recurs(method)) {
                ring++;
                must(walk.modifiers.get(method).contains(Modifier.PRIVATE), "rule 8: " + method + " is private");
            }
        }
        must(ring * MOST_LEVELS + MOST_DEEP < MOST_OPEN_CALLS, "rule 8: " + ring + " methods in rings");
    }

    private static Walk walk() throws IOException {
        JavaCompiler compiler = ToolProvider.getSystemJavaCompiler();
        try (StandardJavaFileManager files = compiler.getStandardFileManager(null, null, null)) {
            JavacTask task = (JavacTask) compiler.getTask(null, files, null, List.of("-proc:none"), null,
                files.getJavaFileObjects(Path.of("src/main/java/FedStatues.java")));
            CompilationUnitTree unit = task.parse().iterator().next();
            task.analyze();
            must(unit.getPackageName() == null, "no package line");
            Walk walk = new Walk(Trees.instance(task), unit);
            walk.scan(unit, null);
            return walk;
        }
    }

    public static void main(String[] args) throws IOException {
        Walk walk = walk();
        must(walk.calls.size() > 33, "the methods were found");
        must(walk.classes <= 12, "rule 11: " + walk.classes + " classes");
        must(walk.makers.equals(Set.of("fields", "FedStatues.rememberState")), "rule 12: objects are made by " + walk.makers);
        depths(walk);
        System.out.println(wrong == 0 ? walk.calls.size() + " methods keep to the rules" : wrong + " things are not as due");
        if (wrong != 0) {
            System.exit(1);
        }
    }
}
