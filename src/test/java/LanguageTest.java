import com.sun.source.tree.BinaryTree;
import com.sun.source.tree.ClassTree;
import com.sun.source.tree.CompilationUnitTree;
import com.sun.source.tree.ForLoopTree;
import com.sun.source.tree.ImportTree;
import com.sun.source.tree.MethodInvocationTree;
import com.sun.source.tree.MethodTree;
import com.sun.source.tree.NewClassTree;
import com.sun.source.tree.Tree;
import com.sun.source.tree.VariableTree;
import com.sun.source.tree.WhileLoopTree;
import com.sun.source.util.JavacTask;
import com.sun.source.util.SourcePositions;
import com.sun.source.util.TreePath;
import com.sun.source.util.TreePathScanner;
import com.sun.source.util.Trees;
import java.lang.management.ManagementFactory;
import java.lang.reflect.Array;
import java.lang.reflect.Field;
import java.lang.reflect.Modifier;
import java.nio.file.Files;
import java.nio.file.Path;
import java.util.ArrayDeque;
import java.util.ArrayList;
import java.util.Arrays;
import java.util.Deque;
import java.util.HashMap;
import java.util.HashSet;
import java.util.IdentityHashMap;
import java.util.LinkedHashMap;
import java.util.List;
import java.util.Map;
import java.util.Set;
import java.util.TreeSet;
import javax.lang.model.element.Element;
import javax.lang.model.element.ExecutableElement;
import javax.lang.model.element.TypeElement;
import javax.tools.JavaCompiler;
import javax.tools.StandardJavaFileManager;
import javax.tools.ToolProvider;

/** The rules of LANGUAGE.md that can be read from the source, and how much a run makes. */
public final class LanguageTest {
    private static final Path SOURCE = Path.of("src/main/java/DuelDelays.java");
    private static final Set<String> FACE = new TreeSet<>(Arrays.asList(("feed end code fault man duel reason worth may next"
        + " heir his comes put rent strike insult days undo redo life late last shun hire clash part lies log began sight"
        + " untell later falses image back about").split(" ")));
    private static final Set<String> LIBRARY = Set.of("java.lang.String.length", "java.lang.String.charAt",
        "java.lang.String.indexOf", "java.lang.Integer.bitCount", "java.lang.Math.max", "java.lang.Math.min",
        "java.lang.System.arraycopy", "java.util.Arrays.fill", "java.lang.Object.<init>");

    private final Checks checks = new Checks();
    private final List<String> source;
    private CompilationUnitTree unit;
    private Trees trees;
    private SourcePositions positions;
    private final Map<Element, Set<Element>> calls = new LinkedHashMap<>();
    private int classes;

    private LanguageTest() throws Exception {
        source = Files.readAllLines(SOURCE);
    }

    public static void main(String[] args) throws Exception {
        LanguageTest test = new LanguageTest();
        test.readSource();
        test.checkDepths();
        test.checkFace();
        test.checkRoom();
        test.checks.finish("LanguageTest");
    }

    private void rule(int number, String what, boolean kept) {
        checks.due("rule " + number + ": " + what, kept, true);
    }

    private void readSource() throws Exception {
        JavaCompiler compiler = ToolProvider.getSystemJavaCompiler();
        try (StandardJavaFileManager files = compiler.getStandardFileManager(null, null, null)) {
            JavacTask task = (JavacTask) compiler.getTask(null, files, null, List.of("-proc:none"), null,
                files.getJavaFileObjects(SOURCE));
            unit = task.parse().iterator().next();
            task.analyze();
            trees = Trees.instance(task);
            positions = trees.getSourcePositions();
            new Scanner().scan(unit, null);
        }
        rule(11, "some twelve classes, not " + classes, classes <= 12);
        for (ImportTree i : unit.getImports()) {
            rule(4, i.toString(), i.getQualifiedIdentifier().toString().equals("java.util.Arrays"));
        }
        for (String line : source) {
            boolean plain = line.chars().allMatch(c -> c >= 32 && c < 127);
            rule(4, "a plain line: " + line, plain);
        }
    }

    private final class Scanner extends TreePathScanner<Void, Element> {
        @Override
        public Void scan(Tree tree, Element in) {
            if (tree != null) {
                switch (tree.getKind()) {
                    case THROW: case TRY: case CATCH: case SYNCHRONIZED: case ASSERT: case LAMBDA_EXPRESSION:
                    case MEMBER_REFERENCE: case TYPE_CAST:
                        rule(6, tree.getKind() + ": " + tree, tree.toString().startsWith("(byte)")
                            || tree.toString().startsWith("(char)"));
                        break;
                    default:
                        break;
                }
            }
            return super.scan(tree, in);
        }

        @Override
        public Void visitClass(ClassTree tree, Element in) {
            classes++;
            TreePath above = getCurrentPath().getParentPath();
            boolean top = above.getLeaf() == unit;
            Set<javax.lang.model.element.Modifier> flags = tree.getModifiers().getFlags();
            if (!top) {
                rule(2, tree.getSimpleName() + " is a private static class", above.getLeaf() instanceof ClassTree
                    && flags.contains(javax.lang.model.element.Modifier.STATIC)
                    && flags.contains(javax.lang.model.element.Modifier.PRIVATE));
            }
            int fields = 0;
            for (Tree member : tree.getMembers()) {
                if (member instanceof VariableTree v) {
                    boolean isStatic = v.getModifiers().getFlags().contains(javax.lang.model.element.Modifier.STATIC);
                    fields += isStatic ? 0 : 1;
                    rule(5, v.getName() + " is a constant", !isStatic
                        || v.getModifiers().getFlags().contains(javax.lang.model.element.Modifier.FINAL)
                        && List.of("int", "String").contains(v.getType().toString()));
                }
            }
            rule(11, tree.getSimpleName() + " has " + fields + " fields", fields <= 20);
            return super.visitClass(tree, in);
        }

        @Override
        public Void visitMethod(MethodTree tree, Element in) {
            Element method = trees.getElement(getCurrentPath());
            calls.putIfAbsent(method, new HashSet<>());
            rule(11, tree.getName() + " has some parameters", tree.getParameters().size() <= 7);
            long from = unit.getLineMap().getLineNumber(Math.max(0, positions.getStartPosition(unit, tree)));
            long to = unit.getLineMap().getLineNumber(Math.max(0, positions.getEndPosition(unit, tree)));
            rule(11, tree.getName() + " is short", to - from < 60);
            boolean isPublic = tree.getModifiers().getFlags().contains(javax.lang.model.element.Modifier.PUBLIC);
            rule(1, tree.getName() + " does not bear a public method's name", isPublic
                || !FACE.contains(tree.getName().toString()));
            return super.visitMethod(tree, method);
        }

        @Override
        public Void visitMethodInvocation(MethodInvocationTree tree, Element in) {
            note((ExecutableElement) trees.getElement(getCurrentPath()), in);
            return super.visitMethodInvocation(tree, in);
        }

        @Override
        public Void visitNewClass(NewClassTree tree, Element in) {
            rule(2, "no anonymous class", tree.getClassBody() == null);
            note((ExecutableElement) trees.getElement(getCurrentPath()), in);
            return super.visitNewClass(tree, in);
        }

        private void note(ExecutableElement callee, Element in) {
            TypeElement owner = (TypeElement) callee.getEnclosingElement();
            String name = owner.getQualifiedName() + "." + callee.getSimpleName();
            if (owner.getQualifiedName().toString().startsWith("java")) {
                rule(4, name, LIBRARY.contains(name));
            } else if (in != null) {
                calls.computeIfAbsent(in, k -> new HashSet<>()).add(callee);
            }
        }

        @Override
        public Void visitWhileLoop(WhileLoopTree tree, Element in) {
            rule(9, "a while has an end", !tree.getCondition().toString().equals("(true)"));
            return super.visitWhileLoop(tree, in);
        }

        @Override
        public Void visitForLoop(ForLoopTree tree, Element in) {
            rule(9, "a for has a bound", tree.getCondition() != null);
            return super.visitForLoop(tree, in);
        }

        @Override
        public Void visitBinary(BinaryTree tree, Element in) {
            boolean joins = tree.getKind() == Tree.Kind.PLUS
                && trees.getTypeMirror(getCurrentPath()).toString().equals("java.lang.String");
            rule(10, "no texts joined by +: " + tree, !joins);
            return super.visitBinary(tree, in);
        }
    }

    // ---- how deep calls go

    /** Methods that call one another are one level here, as they are bounded by the nesting they carry. */
    private void checkDepths() {
        Map<Element, Set<Element>> reach = new HashMap<>();
        for (Element m : calls.keySet()) {
            Set<Element> seen = new HashSet<>();
            Deque<Element> todo = new ArrayDeque<>(calls.get(m));
            while (!todo.isEmpty()) {
                Element next = todo.pop();
                if (seen.add(next)) {
                    todo.addAll(calls.getOrDefault(next, Set.of()));
                }
            }
            reach.put(m, seen);
        }
        for (Element m : calls.keySet()) {
            int depth = depth(m, reach, new HashMap<>());
            rule(11, m + " goes " + depth + " deep", depth <= 8);
        }
    }

    private int depth(Element m, Map<Element, Set<Element>> reach, Map<Element, Integer> known) {
        if (known.containsKey(m)) {
            return known.get(m);
        }
        Set<Element> group = new HashSet<>(Set.of(m));
        for (Element other : reach.getOrDefault(m, Set.of())) {
            if (reach.getOrDefault(other, Set.of()).contains(m)) {
                group.add(other);
            }
        }
        int below = 0;
        for (Element member : group) {
            for (Element callee : calls.getOrDefault(member, Set.of())) {
                if (!group.contains(callee)) {
                    below = Math.max(below, depth(callee, reach, known));
                }
            }
        }
        known.put(m, below + 1);
        return below + 1;
    }

    // ---- the face, and the room

    private void checkFace() {
        Set<String> methods = new TreeSet<>();
        for (java.lang.reflect.Method m : DuelDelays.class.getDeclaredMethods()) {
            if (!Modifier.isPrivate(m.getModifiers()) && !m.isSynthetic()) {
                methods.add(m.getName());
                rule(1, m.getName() + " is public", Modifier.isPublic(m.getModifiers()));
            }
        }
        rule(1, "the document's methods: " + methods, methods.equals(FACE));
        Set<String> fields = new TreeSet<>();
        for (Field f : DuelDelays.class.getDeclaredFields()) {
            if (!Modifier.isPrivate(f.getModifiers())) {
                fields.add(f.getName());
            }
        }
        rule(1, "the document's constants: " + fields, fields.equals(Set.of("NONE")));
        rule(1, "a final class", Modifier.isFinal(DuelDelays.class.getModifiers()));
    }

    private void checkRoom() throws Exception {
        DuelDelays x = Checks.land("man a dies 400;man b dies 500;man c dies 300;kind k 3 + uses;reason r of k each;"
            + "reason s of k by b rent 1;reason t of k each;reason u of k by c each;duel a with b on 5;duel a with c on 5;");
        long elements = count(x);
        rule(12, elements + " fields and elements of one object", elements < 60000);
        com.sun.management.ThreadMXBean threads = (com.sun.management.ThreadMXBean) ManagementFactory.getThreadMXBean();
        callAll(x);
        long before = threads.getThreadAllocatedBytes(Thread.currentThread().getId());
        for (int i = 0; i < 50; i++) {
            callAll(x);
        }
        long made = threads.getThreadAllocatedBytes(Thread.currentThread().getId()) - before;
        rule(12, "calls make nothing, not " + made + " bytes", made < 20000);
    }

    private static void callAll(DuelDelays x) {
        x.feed(0x686f6e6f, 0x75722037, 0x3b202020, 0x20202020, 0x20202020);
        x.end(0);
        x.put(0, 0, 0);
        x.rent(0, 1);
        x.strike(2);
        x.insult(1, 2);
        x.days(1);
        x.life(0);
        x.late(0, 16);
        x.last(0, 0);
        x.shun(0);
        x.hire(0, 0);
        x.clash(0);
        x.part(0);
        x.sight(0, 9);
        x.falses(0);
        x.image(0);
        x.back(0);
        x.undo();
    }

    private static long count(Object root) throws Exception {
        IdentityHashMap<Object, Boolean> seen = new IdentityHashMap<>();
        Deque<Object> todo = new ArrayDeque<>(List.of(root));
        long total = 0;
        while (!todo.isEmpty()) {
            Object o = todo.pop();
            if (seen.put(o, true) != null) {
                continue;
            }
            List<Object> parts = new ArrayList<>();
            if (o.getClass().isArray()) {
                total += Array.getLength(o);
                for (int i = 0; !o.getClass().getComponentType().isPrimitive() && i < Array.getLength(o); i++) {
                    parts.add(Array.get(o, i));
                }
            } else {
                for (Field f : o.getClass().getDeclaredFields()) {
                    if (!Modifier.isStatic(f.getModifiers())) {
                        total++;
                        f.setAccessible(true);
                        if (!f.getType().isPrimitive()) {
                            parts.add(f.get(o));
                        }
                    }
                }
            }
            for (Object part : parts) {
                if (part != null) {
                    todo.push(part);
                }
            }
        }
        System.out.println("one object has " + seen.size() + " objects and arrays, " + total + " fields and elements");
        return total;
    }
}
