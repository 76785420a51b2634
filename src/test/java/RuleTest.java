import com.sun.source.tree.*;
import com.sun.source.util.JavacTask;
import com.sun.source.util.TreePathScanner;
import com.sun.source.util.TreeScanner;
import com.sun.source.util.Trees;
import java.io.File;
import java.util.ArrayList;
import java.util.HashMap;
import java.util.HashSet;
import java.util.List;
import java.util.Map;
import java.util.Set;
import java.util.TreeSet;
import javax.lang.model.element.Element;
import javax.lang.model.element.ElementKind;
import javax.lang.model.element.ExecutableElement;
import javax.lang.model.element.Modifier;
import javax.lang.model.element.TypeElement;
import javax.lang.model.element.VariableElement;
import javax.lang.model.type.TypeKind;
import javax.tools.JavaCompiler;
import javax.tools.ToolProvider;

/** Holds src/main/java/PlateCity.java against the rules of ../shared/LANGUAGE.md that a machine can see. */
public final class RuleTest {
    private static final Set<String> FACE = Set.of("feed", "end", "city", "house", "plug", "hazard", "wind", "coin",
        "engine", "deal", "terms", "fault", "policy", "annul", "as", "force", "premium", "helps", "run", "burnt",
        "came", "lost", "claim", "settled", "fall", "rounds", "worst", "place", "plan", "planned", "all");
    private static final Set<String> LIBRARY = Set.of("String.length", "String.charAt", "String.isEmpty",
        "String.equals", "String.indexOf", "String.substring", "String.toCharArray", "System.arraycopy",
        "Arrays.copyOf", "Arrays.copyOfRange", "Arrays.fill", "Math.max", "Math.min", "Math.abs", "Math.floorDiv",
        "Math.floorMod", "Object.<init>");
    private static final Set<Tree.Kind> BANNED = Set.of(Tree.Kind.THROW, Tree.Kind.TRY, Tree.Kind.CATCH,
        Tree.Kind.SYNCHRONIZED, Tree.Kind.ASSERT, Tree.Kind.LAMBDA_EXPRESSION, Tree.Kind.MEMBER_REFERENCE,
        Tree.Kind.SWITCH_EXPRESSION, Tree.Kind.INSTANCE_OF, Tree.Kind.TYPE_CAST, Tree.Kind.RECORD);

    private final Map<String, Set<String>> calls = new HashMap<>();
    private final List<String> wrong = new ArrayList<>();
    private int classes = 0;

    public static void main(String[] args) throws Exception {
        JavaCompiler compiler = ToolProvider.getSystemJavaCompiler();
        JavacTask task = (JavacTask) compiler.getTask(null, null, null, List.of("-proc:none"), null,
            compiler.getStandardFileManager(null, null, null)
                .getJavaFileObjects(new File("src/main/java/PlateCity.java")));
        CompilationUnitTree unit = task.parse().iterator().next();
        task.analyze();
        RuleTest test = new RuleTest();
        test.look(unit, Trees.instance(task));
        int deep = test.deepest();
        if (deep > 8) {
            test.wrong.add("calls go " + deep + " deep");
        }
        if (test.classes > 12) {
            test.wrong.add(test.classes + " classes");
        }
        test.wrong.forEach(System.out::println);
        if (!test.wrong.isEmpty()) {
            System.exit(1);
        }
        System.out.println(test.classes + " classes, calls at most " + deep + " deep: within the rules");
    }

    private void look(CompilationUnitTree unit, Trees trees) {
        for (ImportTree each : unit.getImports()) {
            if (!each.getQualifiedIdentifier().toString().equals("java.util.Arrays")) {
                wrong.add("import of " + each.getQualifiedIdentifier());
            }
        }
        new TreePathScanner<Void, String>() {
            @Override
            public Void scan(Tree tree, String method) {
                if (tree != null && BANNED.contains(tree.getKind())
                    && !(tree instanceof TypeCastTree cast && cast.getType() instanceof PrimitiveTypeTree)) {
                    wrong.add(tree.getKind() + " in " + method);
                }
                return super.scan(tree, method);
            }

            @Override
            public Void visitClass(ClassTree tree, String method) {
                classes++;
                lookAtClass((TypeElement) trees.getElement(getCurrentPath()));
                return super.visitClass(tree, "the fields of " + tree.getSimpleName());
            }

            @Override
            public Void visitMethod(MethodTree tree, String method) {
                Element element = trees.getElement(getCurrentPath());
                String name = nameOf(element);
                calls.putIfAbsent(name, new TreeSet<>());
                long from = trees.getSourcePositions().getStartPosition(unit, tree);
                long to = trees.getSourcePositions().getEndPosition(unit, tree);
                long lines = to < 0 ? 0 : unit.getLineMap().getLineNumber(to) - unit.getLineMap().getLineNumber(from);
                if (lines > 60 || tree.getParameters().size() > 7) {
                    wrong.add(name + " is too long or wide");
                }
                return super.visitMethod(tree, name);
            }

            @Override
            public Void visitMethodInvocation(MethodInvocationTree tree, String method) {
                note(trees.getElement(getCurrentPath()), method);
                return super.visitMethodInvocation(tree, method);
            }

            @Override
            public Void visitNewClass(NewClassTree tree, String method) {
                note(trees.getElement(getCurrentPath()), method);
                return super.visitNewClass(tree, method);
            }

            @Override
            public Void visitBinary(BinaryTree tree, String method) {
                boolean texts = new TreeScanner<Boolean, Void>() {
                    @Override
                    public Boolean visitLiteral(LiteralTree literal, Void none) {
                        return literal.getKind() == Tree.Kind.STRING_LITERAL;
                    }

                    @Override
                    public Boolean reduce(Boolean one, Boolean other) {
                        return one == Boolean.TRUE || other == Boolean.TRUE;
                    }
                }.scan(tree, null) == Boolean.TRUE;
                if (texts && tree.getKind() == Tree.Kind.PLUS) {
                    wrong.add("texts joined by + in " + method);
                }
                return super.visitBinary(tree, method);
            }
        }.scan(unit, "the file");
    }

    private static String nameOf(Element element) {
        return element.getEnclosingElement().getSimpleName() + "." + element.getSimpleName();
    }

    private void note(Element callee, String caller) {
        String name = nameOf(callee);
        String owner = ((TypeElement) callee.getEnclosingElement()).getQualifiedName().toString();
        if (!owner.startsWith("PlateCity") && !LIBRARY.contains(name)) {
            wrong.add(name + " is called in " + caller);
        }
        if (owner.startsWith("PlateCity")) {
            calls.computeIfAbsent(caller, any -> new TreeSet<>()).add(name);
        }
    }

    private void lookAtClass(TypeElement type) {
        boolean outer = type.getSimpleName().contentEquals("PlateCity");
        if (outer != type.getModifiers().contains(Modifier.PUBLIC) || !type.getModifiers().contains(Modifier.FINAL)
            || !outer && !type.getModifiers().contains(Modifier.STATIC)) {
            wrong.add(type + " has other modifiers than it should");
        }
        int fields = 0;
        Set<String> seen = new HashSet<>();
        for (Element member : type.getEnclosedElements()) {
            String name = member.getSimpleName().toString();
            boolean open = !member.getModifiers().contains(Modifier.PRIVATE);
            if (outer && open && !member.getKind().isClass() && !name.equals("NONE") && !name.equals("<init>")
                && !(FACE.contains(name) && member.getModifiers().contains(Modifier.PUBLIC))) {
                wrong.add(name + " is no part of the face");
            }
            if (member instanceof ExecutableElement) {
                if (!(outer && open) && FACE.contains(name)) {
                    wrong.add(type + "." + name + " bears the name of a public one");
                }
                if (!seen.add(name)) {
                    wrong.add(type + "." + name + " is there twice");
                }
            }
            if (member.getKind() == ElementKind.FIELD) {
                fields += member.getModifiers().contains(Modifier.STATIC) ? 0 : 1;
                lookAtField(type, (VariableElement) member);
            }
        }
        if (fields > 20) {
            wrong.add(type + " has " + fields + " fields");
        }
        if (outer && !seen.containsAll(FACE)) {
            wrong.add("the face is not whole");
        }
    }

    private void lookAtField(TypeElement type, VariableElement field) {
        if (!field.getModifiers().contains(Modifier.STATIC)) {
            return;
        }
        boolean array = field.asType().getKind() == TypeKind.ARRAY;
        if (!field.getModifiers().contains(Modifier.FINAL) || !array && field.getConstantValue() == null) {
            wrong.add(type + "." + field + " is static and no constant");
        }
    }

    // Methods that call one another in a ring count as one step.
    private int deepest() {
        Map<String, Integer> ring = new HashMap<>();
        List<Set<String>> rings = new ArrayList<>();
        for (String method : calls.keySet()) {
            Set<String> mates = new TreeSet<>();
            for (String other : reach(method)) {
                if (reach(other).contains(method)) {
                    mates.add(other);
                }
            }
            mates.add(method);
            if (!rings.contains(mates)) {
                rings.add(mates);
            }
            ring.put(method, rings.indexOf(mates));
        }
        int most = 0;
        for (int i = 0; i < rings.size(); i++) {
            most = Math.max(most, depth(i, rings, ring, new HashMap<>()));
        }
        return most;
    }

    private Set<String> reach(String method) {
        Set<String> reached = new TreeSet<>();
        List<String> todo = new ArrayList<>(calls.getOrDefault(method, Set.of()));
        while (!todo.isEmpty()) {
            String next = todo.remove(todo.size() - 1);
            if (reached.add(next)) {
                todo.addAll(calls.getOrDefault(next, Set.of()));
            }
        }
        return reached;
    }

    private int depth(int i, List<Set<String>> rings, Map<String, Integer> ring, Map<Integer, Integer> done) {
        if (done.containsKey(i)) {
            return done.get(i);
        }
        int below = 0;
        for (String method : rings.get(i)) {
            for (String callee : calls.getOrDefault(method, Set.of())) {
                Integer other = ring.get(callee);
                if (other != null && other != i) {
                    below = Math.max(below, depth(other, rings, ring, done));
                }
            }
        }
        done.put(i, below + 1);
        return below + 1;
    }
}
