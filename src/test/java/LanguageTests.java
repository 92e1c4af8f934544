import com.sun.source.tree.BinaryTree;
import com.sun.source.tree.ClassTree;
import com.sun.source.tree.CompilationUnitTree;
import com.sun.source.tree.CompoundAssignmentTree;
import com.sun.source.tree.DoWhileLoopTree;
import com.sun.source.tree.EnhancedForLoopTree;
import com.sun.source.tree.ForLoopTree;
import com.sun.source.tree.MethodInvocationTree;
import com.sun.source.tree.MethodTree;
import com.sun.source.tree.NewArrayTree;
import com.sun.source.tree.NewClassTree;
import com.sun.source.tree.Tree;
import com.sun.source.tree.TypeCastTree;
import com.sun.source.tree.VariableTree;
import com.sun.source.tree.WhileLoopTree;
import com.sun.source.util.JavacTask;
import com.sun.source.util.TreePath;
import com.sun.source.util.TreePathScanner;
import com.sun.source.util.Trees;
import java.io.File;
import java.io.IOException;
import java.nio.file.Files;
import java.nio.file.Path;
import java.util.ArrayList;
import java.util.EnumSet;
import java.util.HashMap;
import java.util.LinkedHashMap;
import java.util.List;
import java.util.Map;
import java.util.Set;
import java.util.TreeSet;
import javax.lang.model.element.Element;
import javax.lang.model.element.Modifier;
import javax.lang.model.type.TypeKind;
import javax.lang.model.type.TypeMirror;
import javax.tools.JavaCompiler;
import javax.tools.StandardJavaFileManager;
import javax.tools.ToolProvider;

/** Rules of LANGUAGE.md that can be seen in the tree that the compiler makes of the file. */
public final class LanguageTests extends TreePathScanner<Void, Void> {
    private static final String FILE = "src/main/java/HillBends.java";
    /** Rule 4, as far as the file goes. */
    private static final Set<String> LIBRARY = Set.of("String.length", "String.charAt", "String.indexOf", "Integer.bitCount",
            "Math.max", "Math.min", "System.arraycopy");
    private static final Set<String> TYPES = Set.of("int", "long", "boolean", "char", "int[]", "long[]", "java.lang.String");
    /** Rule 8: each of these is bounded by bends, by sorts, or by a depth that it carries. */
    private static final Set<String> RECURSIONS = Set.of("[HillBends.Chances.waysFrom]", "[HillBends.Choices.giftsFrom]",
            "[HillBends.Choices.pickFrom]", "[HillBends.Rule.fact, HillBends.Rule.test]");

    private static final Set<Tree.Kind> NEVER = EnumSet.of(Tree.Kind.IMPORT, Tree.Kind.LAMBDA_EXPRESSION, Tree.Kind.MEMBER_REFERENCE,
            Tree.Kind.THROW, Tree.Kind.TRY, Tree.Kind.SYNCHRONIZED, Tree.Kind.ASSERT, Tree.Kind.INSTANCE_OF);

    private final Trees trees;
    private final Map<String, Set<String>> calls = new LinkedHashMap<>();
    private final Map<String, Integer> fields = new HashMap<>();
    private final Set<String> publicNames = new TreeSet<>();
    private final Set<String> otherNames = new TreeSet<>();
    private int classes;
    private int loops;
    private int made;

    private LanguageTests(Trees trees) {
        this.trees = trees;
    }

    public static void main(String[] args) throws IOException {
        JavaCompiler compiler = ToolProvider.getSystemJavaCompiler();
        Checks.holds("a compiler", compiler != null);
        if (compiler != null) {
            try (StandardJavaFileManager files = compiler.getStandardFileManager(null, null, null)) {
                JavacTask task = (JavacTask) compiler.getTask(null, files, null, List.of("-proc:none"), null,
                        files.getJavaFileObjects(new File(FILE)));
                LanguageTests tests = new LanguageTests(Trees.instance(task));
                Iterable<? extends CompilationUnitTree> units = task.parse();
                task.analyze();
                for (CompilationUnitTree unit : units) {
                    Checks.holds("rule 1: without a package", unit.getPackageName() == null);
                    tests.scan(unit, null);
                }
                tests.whole();
            }
        }
        Checks.close("LanguageTests");
    }

    private void whole() throws IOException {
        Checks.holds("the tree was seen", loops > 50 && made > 50 && calls.size() > 100);
        String source = Files.readString(Path.of(FILE));
        Checks.holds("rule 4: signs of constants are 1 to 127", source.chars().allMatch(sign -> sign > 0 && sign < 128));
        Checks.is("rule 1: methods of the face", publicNames.size(), 36);
        for (String name : publicNames) {
            Checks.holds("rule 1: no other method is named " + name, !otherNames.contains(name));
        }
        Checks.holds("rule 11: some twelve classes, not " + classes, classes <= 12);
        fields.forEach((name, many) -> Checks.holds("rule 11: some twenty fields of " + name, many <= 20));
        List<Set<String>> recursions = new ArrayList<>();
        for (String method : calls.keySet()) {
            Set<String> group = groupOf(method);
            if (calls.get(method).stream().anyMatch(group::contains)) {
                Checks.holds("rule 8: " + group + " goes down by a bound", RECURSIONS.contains(group.toString()));
                recursions.add(group);
            }
        }
        Checks.holds("recursions were seen", !recursions.isEmpty());
        Map<Set<String>, Integer> deepest = new HashMap<>();
        for (String method : calls.keySet()) {
            Checks.holds("rule 11: calls below " + method + " are at most eight deep", depth(groupOf(method), deepest) <= 8);
        }
    }

    /** How deep calls go from a group of methods that call one another on, such a group counted once by its methods. */
    private int depth(Set<String> group, Map<Set<String>, Integer> known) {
        Integer was = known.get(group);
        if (was != null) {
            return was;
        }
        int below = 0;
        for (String method : group) {
            for (String called : calls.get(method)) {
                if (!group.contains(called)) {
                    below = Math.max(below, depth(groupOf(called), known));
                }
            }
        }
        known.put(group, group.size() + below);
        return group.size() + below;
    }

    /** A method with those that it calls, through others too, and that call it. */
    private Set<String> groupOf(String method) {
        Set<String> group = new TreeSet<>();
        group.add(method);
        for (String other : reached(method)) {
            if (reached(other).contains(method)) {
                group.add(other);
            }
        }
        return group;
    }

    private Set<String> reached(String from) {
        Set<String> seen = new TreeSet<>();
        List<String> open = new ArrayList<>(calls.get(from));
        while (!open.isEmpty()) {
            String next = open.remove(open.size() - 1);
            if (seen.add(next)) {
                open.addAll(calls.get(next));
            }
        }
        return seen;
    }

    private String nameOf(Element method) {
        return method.getEnclosingElement() + "." + method.getSimpleName();
    }

    private TypeMirror typeOf(Tree tree) {
        return trees.getTypeMirror(new TreePath(getCurrentPath(), tree));
    }

    private MethodTree methodAround() {
        for (TreePath path = getCurrentPath(); path != null; path = path.getParentPath()) {
            if (path.getLeaf() instanceof MethodTree) {
                return (MethodTree) path.getLeaf();
            }
        }
        return null;
    }

    // ---- classes, methods, fields

    @Override
    public Void visitClass(ClassTree tree, Void nothing) {
        classes++;
        boolean outer = getCurrentPath().getParentPath().getLeaf() instanceof CompilationUnitTree;
        Checks.holds("rule 2: a class of its own: " + tree.getSimpleName(), tree.getKind() == Tree.Kind.CLASS);
        Checks.holds("rule 2: static, and not in a method: " + tree.getSimpleName(),
                outer || tree.getModifiers().getFlags().contains(Modifier.STATIC) && methodAround() == null);
        int own = 0;
        for (Tree member : tree.getMembers()) {
            if (member instanceof VariableTree && !((VariableTree) member).getModifiers().getFlags().contains(Modifier.STATIC)) {
                own++;
            }
            Checks.holds("rule 5: no initialiser block", member.getKind() != Tree.Kind.BLOCK);
        }
        fields.put(tree.getSimpleName().toString(), own);
        return super.visitClass(tree, nothing);
    }

    @Override
    public Void visitMethod(MethodTree tree, Void nothing) {
        Element method = trees.getElement(getCurrentPath());
        calls.putIfAbsent(nameOf(method), new TreeSet<>());
        if (tree.getReturnType() != null) {
            boolean isPublic = tree.getModifiers().getFlags().contains(Modifier.PUBLIC);
            (isPublic ? publicNames : otherNames).add(tree.getName().toString());
        }
        Checks.holds("rule 11: seven parameters of " + method, tree.getParameters().size() <= 7);
        Checks.holds("rule 11: " + method + " is short", tree.toString().lines().count() <= 62);
        return super.visitMethod(tree, nothing);
    }

    @Override
    public Void visitVariable(VariableTree tree, Void nothing) {
        Element variable = trees.getElement(getCurrentPath());
        String type = variable.asType().toString();
        boolean own = type.startsWith("HillBends.") && type.indexOf('[') == type.lastIndexOf('[');
        Checks.holds("rule 3: the type of " + tree, own || TYPES.contains(type));
        Set<Modifier> flags = tree.getModifiers().getFlags();
        boolean isField = getCurrentPath().getParentPath().getLeaf() instanceof ClassTree;
        if (isField && flags.contains(Modifier.STATIC)) {
            Checks.holds("rule 5: a constant: " + tree, flags.contains(Modifier.FINAL)
                    && (type.equals("int") || type.equals("java.lang.String")));
        }
        return super.visitVariable(tree, nothing);
    }

    // ---- what is called and made

    @Override
    public Void visitMethodInvocation(MethodInvocationTree tree, Void nothing) {
        Element called = trees.getElement(new TreePath(getCurrentPath(), tree.getMethodSelect()));
        String name = nameOf(called);
        MethodTree around = methodAround();
        if (name.startsWith("HillBends.")) {
            Checks.holds("rule 12: only a method calls another one: " + tree, around != null && around.getReturnType() != null);
            String caller = nameOf(trees.getElement(trees.getPath(getCurrentPath().getCompilationUnit(), around)));
            calls.computeIfAbsent(caller, key -> new TreeSet<>()).add(name);
        } else if (!called.getSimpleName().contentEquals("<init>")) {
            Checks.holds("rule 4: " + name, LIBRARY.contains(name.replace("java.lang.", "")));
        }
        return super.visitMethodInvocation(tree, nothing);
    }

    /** Rule 12: what is made is made with the object, so that no call makes anything. */
    private void isMadeAtFirst(Tree tree) {
        made++;
        MethodTree around = methodAround();
        Checks.holds("rule 12: made with the object: " + tree, around == null || around.getReturnType() == null);
    }

    @Override
    public Void visitNewClass(NewClassTree tree, Void nothing) {
        isMadeAtFirst(tree);
        Checks.holds("rule 2: no class without a name", tree.getClassBody() == null);
        Checks.holds("rule 3: of the file's own: " + tree, typeOf(tree).toString().startsWith("HillBends."));
        return super.visitNewClass(tree, nothing);
    }

    @Override
    public Void visitNewArray(NewArrayTree tree, Void nothing) {
        isMadeAtFirst(tree);
        Checks.is("rule 3: dimensions of " + tree, tree.getDimensions().size(), 1);
        return super.visitNewArray(tree, nothing);
    }

    @Override
    public Void visitBinary(BinaryTree tree, Void nothing) {
        Checks.holds("rule 10: texts are not joined by +: " + tree, typeOf(tree).getKind().isPrimitive());
        boolean compared = tree.getKind() == Tree.Kind.EQUAL_TO || tree.getKind() == Tree.Kind.NOT_EQUAL_TO;
        Checks.holds("rule 6: no texts by ==: " + tree,
                !compared || !typeOf(tree.getLeftOperand()).toString().equals("java.lang.String"));
        boolean divides = tree.getKind() == Tree.Kind.DIVIDE || tree.getKind() == Tree.Kind.REMAINDER;
        // A number, a divisor with a floor, or one that was looked at in the same line.
        Checks.holds("rule 7: a divisor that was looked at: " + tree, !divides || isSafeDivisor(tree));
        return super.visitBinary(tree, nothing);
    }

    private boolean isSafeDivisor(BinaryTree tree) {
        String by = tree.getRightOperand().toString();
        String line = getCurrentPath().getParentPath().getLeaf().toString();
        return by.matches("[1-9]\\d*") || by.startsWith("Math.max(1, ") || line.contains(by + " == 0 ? 0 : ");
    }

    @Override
    public Void visitCompoundAssignment(CompoundAssignmentTree tree, Void nothing) {
        boolean divides = tree.getKind() == Tree.Kind.DIVIDE_ASSIGNMENT || tree.getKind() == Tree.Kind.REMAINDER_ASSIGNMENT;
        Checks.holds("rule 7: no division in place: " + tree, !divides);
        return super.visitCompoundAssignment(tree, nothing);
    }

    @Override
    public Void visitTypeCast(TypeCastTree tree, Void nothing) {
        Checks.holds("rule 6: casts of numbers alone: " + tree, typeOf(tree).getKind().isPrimitive());
        return super.visitTypeCast(tree, nothing);
    }

    // ---- loops

    private void loop(Tree condition, Tree loop) {
        loops++;
        boolean bound = condition != null && !condition.toString().matches("\\(?true\\)?") && condition.toString().matches("(?s).*(<|>=|<=|>).*");
        Checks.holds("rule 9: a counter against a bound: " + loop, bound);
    }

    @Override
    public Void visitForLoop(ForLoopTree tree, Void nothing) {
        loop(tree.getCondition(), tree);
        Checks.is("rule 9: one step of " + tree.getUpdate(), tree.getUpdate().size(), 1);
        return super.visitForLoop(tree, nothing);
    }

    @Override
    public Void visitWhileLoop(WhileLoopTree tree, Void nothing) {
        loop(tree.getCondition(), tree);
        return super.visitWhileLoop(tree, nothing);
    }

    @Override
    public Void visitDoWhileLoop(DoWhileLoopTree tree, Void nothing) {
        loop(tree.getCondition(), tree);
        return super.visitDoWhileLoop(tree, nothing);
    }

    @Override
    public Void visitEnhancedForLoop(EnhancedForLoopTree tree, Void nothing) {
        Checks.holds("rule 12: over an array: " + tree, typeOf(tree.getExpression()).getKind() == TypeKind.ARRAY);
        return super.visitEnhancedForLoop(tree, nothing);
    }

    // ---- what never stands there

    @Override
    public Void scan(Tree tree, Void nothing) {
        Checks.holds("rules 2, 4 and 6: none such: " + tree, tree == null || !NEVER.contains(tree.getKind()));
        return super.scan(tree, nothing);
    }
}
