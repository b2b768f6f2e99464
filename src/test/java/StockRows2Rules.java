import com.sun.source.tree.BinaryTree;
import com.sun.source.tree.ClassTree;
import com.sun.source.tree.CompilationUnitTree;
import com.sun.source.tree.CompoundAssignmentTree;
import com.sun.source.tree.ExpressionTree;
import com.sun.source.tree.ForLoopTree;
import com.sun.source.tree.IdentifierTree;
import com.sun.source.tree.ImportTree;
import com.sun.source.tree.MemberSelectTree;
import com.sun.source.tree.MethodInvocationTree;
import com.sun.source.tree.MethodTree;
import com.sun.source.tree.NewArrayTree;
import com.sun.source.tree.NewClassTree;
import com.sun.source.tree.ThrowTree;
import com.sun.source.tree.Tree;
import com.sun.source.tree.TypeCastTree;
import com.sun.source.tree.VariableTree;
import com.sun.source.util.JavacTask;
import com.sun.source.util.TreePath;
import com.sun.source.util.TreePathScanner;
import com.sun.source.util.Trees;
import java.io.IOException;
import java.lang.reflect.InvocationTargetException;
import java.lang.reflect.Method;
import java.nio.file.Path;
import java.util.Arrays;
import java.util.Comparator;
import java.util.EnumSet;
import java.util.HashMap;
import java.util.HashSet;
import java.util.List;
import java.util.Map;
import java.util.Random;
import java.util.Set;
import javax.lang.model.element.Element;
import javax.lang.model.element.ElementKind;
import javax.lang.model.element.ExecutableElement;
import javax.lang.model.element.Modifier;
import javax.lang.model.element.TypeElement;
import javax.lang.model.type.ArrayType;
import javax.lang.model.type.TypeKind;
import javax.lang.model.type.TypeMirror;
import javax.tools.JavaCompiler;
import javax.tools.StandardJavaFileManager;
import javax.tools.ToolProvider;

/**
 * The rules of LANGUAGE.md as far as a machine can look at them, in the class's own source. Where the class needs
 * less than the rules leave (no lists, no try, no while), less is let through: it is easier to look at.
 */
public final class StockRows2Rules {
    private static final Path SOURCE = Path.of("src", "main", "java", "StockRows2.java");
    private static final Set<String> MATH = Set.of("min", "max");
    private static final Set<String> THROWN = Set.of("IllegalStateException", "IllegalArgumentException",
            "IndexOutOfBoundsException", "ArithmeticException", "UnsupportedOperationException",
            "NoSuchElementException", "RuntimeException");
    private static final Set<Tree.Kind> NOT_NEEDED = EnumSet.of(Tree.Kind.LAMBDA_EXPRESSION,
            Tree.Kind.MEMBER_REFERENCE, Tree.Kind.TRY, Tree.Kind.SYNCHRONIZED, Tree.Kind.ASSERT,
            Tree.Kind.INSTANCE_OF, Tree.Kind.WHILE_LOOP, Tree.Kind.DO_WHILE_LOOP, Tree.Kind.NULL_LITERAL,
            Tree.Kind.INTERFACE, Tree.Kind.ENUM, Tree.Kind.RECORD, Tree.Kind.ANNOTATION_TYPE);
    private static final int MOST_PARAMETERS = 7;
    private static final int MOST_LINES = 60;
    private static final int MOST_DEEP = 8;
    private static final int MOST_CLASSES = 12;
    private static final int MOST_FIELDS = 20;

    private static int wrong = 0;

    public static void main(String[] args) throws IOException, IllegalAccessException {
        source();
        if (wrong == 0) {
            // Only behind the look at the loops, as one without an end would never let the lives end.
            longLives();
            numbersBeyondInts();
        }
        System.out.println(wrong == 0 ? "the rules hold" : wrong + " things are not as the rules ask");
        if (wrong != 0) {
            System.exit(1);
        }
    }

    private static void tell(String what) {
        wrong++;
        System.out.println(what);
    }

    private static void source() throws IOException {
        JavaCompiler compiler = ToolProvider.getSystemJavaCompiler();
        try (StandardJavaFileManager files = compiler.getStandardFileManager(null, null, null)) {
            JavacTask task = (JavacTask) compiler.getTask(null, files, null, List.of("--release", "17"), null,
                    files.getJavaFileObjects(SOURCE));
            Iterable<? extends CompilationUnitTree> units = task.parse();
            task.analyze();
            if (!units.iterator().hasNext()) {
                tell("no source to look at: " + SOURCE);
            }
            for (CompilationUnitTree unit : units) {
                Rules rules = new Rules(Trees.instance(task), unit);
                rules.scan(unit, null);
                rules.finish();
            }
        }
    }

    private static final class Rules extends TreePathScanner<Void, Void> {
        private final Trees trees;
        private final CompilationUnitTree unit;
        private final Map<Element, Set<Element>> calls = new HashMap<>();
        private final Set<String> publicNames = new HashSet<>();
        private final Set<String> otherNames = new HashSet<>();
        private int classes = 0;

        Rules(Trees trees, CompilationUnitTree unit) {
            this.trees = trees;
            this.unit = unit;
        }

        private void rule(int number, boolean holds, Tree tree) {
            if (!holds) {
                tell("rule " + number + ", " + place(tree));
            }
        }

        private String place(Tree tree) {
            long start = trees.getSourcePositions().getStartPosition(unit, tree);
            return "line " + unit.getLineMap().getLineNumber(start) + ": " + tree.getKind();
        }

        void finish() {
            if (unit.getPackageName() != null || unit.getTypeDecls().size() != 1 || classes > MOST_CLASSES) {
                tell("rules 1 and 11: a package, more than one outer class, or too many classes");
            }
            otherNames.stream().filter(publicNames::contains)
                    .forEach(name -> tell("rule 1: another method bears the public name " + name));
            Map<Element, Integer> depths = new HashMap<>();
            for (Element method : Set.copyOf(calls.keySet())) {
                if (depth(method, new HashSet<>(), depths) > MOST_DEEP) {
                    tell("rules 8 and 11: calls itself, or too deep: " + method);
                }
            }
        }

        /** How many calls stand open at once; one that leads back to itself is deeper than any bound. */
        private int depth(Element method, Set<Element> open, Map<Element, Integer> known) {
            if (!open.add(method)) {
                return MOST_DEEP + 1;
            }
            Integer before = known.get(method);
            int deepest = 0;
            if (before == null) {
                for (Element called : calls.getOrDefault(method, Set.of())) {
                    deepest = Math.max(deepest, depth(called, open, known));
                }
            }
            open.remove(method);
            int depth = before != null ? before : Math.min(MOST_DEEP + 1, deepest + 1);
            known.put(method, depth);
            return depth;
        }

        @Override
        public Void scan(Tree tree, Void nothing) {
            if (tree != null && NOT_NEEDED.contains(tree.getKind())) {
                tell("the class needs none such, " + place(tree));
            }
            return super.scan(tree, nothing);
        }

        @Override
        public Void visitImport(ImportTree tree, Void nothing) {
            rule(4, false, tree);
            return super.visitImport(tree, nothing);
        }

        @Override
        public Void visitClass(ClassTree tree, Void nothing) {
            classes++;
            Tree around = getCurrentPath().getParentPath().getLeaf();
            Set<Modifier> flags = tree.getModifiers().getFlags();
            if (around.getKind() == Tree.Kind.COMPILATION_UNIT) {
                rule(1, flags.equals(Set.of(Modifier.PUBLIC, Modifier.FINAL)), tree);
            } else {
                rule(1, flags.contains(Modifier.STATIC) && !flags.contains(Modifier.PUBLIC)
                        && !flags.contains(Modifier.PROTECTED), tree);
                rule(2, around.getKind() == Tree.Kind.CLASS, tree);
            }
            rule(5, tree.getMembers().stream().noneMatch(member -> member.getKind() == Tree.Kind.BLOCK), tree);
            rule(11, tree.getMembers().stream().filter(member -> member instanceof VariableTree field
                    && !field.getModifiers().getFlags().contains(Modifier.STATIC)).count() <= MOST_FIELDS, tree);
            return super.visitClass(tree, nothing);
        }

        @Override
        public Void visitMethod(MethodTree tree, Void nothing) {
            if (!tree.getName().contentEquals("<init>")) {
                boolean isPublic = tree.getModifiers().getFlags().contains(Modifier.PUBLIC);
                (isPublic ? publicNames : otherNames).add(tree.getName().toString());
            }
            rule(11, tree.getParameters().size() <= MOST_PARAMETERS, tree);
            long start = trees.getSourcePositions().getStartPosition(unit, tree);
            long end = trees.getSourcePositions().getEndPosition(unit, tree);
            if (end >= 0) {
                rule(11, unit.getLineMap().getLineNumber(end) - unit.getLineMap().getLineNumber(start) < MOST_LINES,
                        tree);
            }
            return super.visitMethod(tree, nothing);
        }

        @Override
        public Void visitVariable(VariableTree tree, Void nothing) {
            Element element = trees.getElement(getCurrentPath());
            rule(3, isLetThrough(element.asType()), tree);
            if (element.getModifiers().contains(Modifier.STATIC)) {
                rule(5, element.getModifiers().contains(Modifier.FINAL)
                        && element.asType().getKind().isPrimitive(), tree);
            }
            return super.visitVariable(tree, nothing);
        }

        private boolean isLetThrough(TypeMirror type) {
            if (type instanceof ArrayType array) {
                return array.getComponentType().getKind().isPrimitive();
            }
            return type.getKind().isPrimitive() && type.getKind() != TypeKind.DOUBLE
                    && type.getKind() != TypeKind.FLOAT || type.toString().startsWith("StockRows2.");
        }

        @Override
        public Void visitMethodInvocation(MethodInvocationTree tree, Void nothing) {
            ExecutableElement called = (ExecutableElement) trees.getElement(getCurrentPath());
            String owner = ((TypeElement) called.getEnclosingElement()).getQualifiedName().toString();
            if (isOwn(owner)) {
                Element caller = enclosingMethod();
                if (caller != null) {
                    calls.computeIfAbsent(caller, key -> new HashSet<>()).add(called);
                }
            } else {
                rule(4, owner.equals("java.lang.Math") && MATH.contains(called.getSimpleName().toString())
                        || owner.equals("java.lang.Object") && called.getKind() == ElementKind.CONSTRUCTOR, tree);
            }
            return super.visitMethodInvocation(tree, nothing);
        }

        private Element enclosingMethod() {
            for (TreePath at = getCurrentPath(); at != null; at = at.getParentPath()) {
                if (at.getLeaf() instanceof MethodTree) {
                    return trees.getElement(at);
                }
            }
            return null;
        }

        @Override
        public Void visitThrow(ThrowTree tree, Void nothing) {
            Element method = enclosingMethod();
            rule(6, method != null && method.getKind() == ElementKind.METHOD, tree);
            rule(6, tree.getExpression() instanceof NewClassTree made && isWritten(made), tree);
            return super.visitThrow(tree, nothing);
        }

        private static boolean isWritten(NewClassTree made) {
            List<? extends ExpressionTree> texts = made.getArguments();
            return THROWN.contains(made.getIdentifier().toString()) && made.getClassBody() == null
                    && texts.size() <= 1
                    && texts.stream().allMatch(text -> text.getKind() == Tree.Kind.STRING_LITERAL);
        }

        /** Rows are made with the object and used again, so that all calls of a run fit into their room. */
        @Override
        public Void visitNewClass(NewClassTree tree, Void nothing) {
            boolean thrown = getCurrentPath().getParentPath().getLeaf().getKind() == Tree.Kind.THROW;
            rule(12, thrown || isMadeWithTheObject(), tree);
            return super.visitNewClass(tree, nothing);
        }

        @Override
        public Void visitNewArray(NewArrayTree tree, Void nothing) {
            rule(12, isMadeWithTheObject(), tree);
            return super.visitNewArray(tree, nothing);
        }

        private boolean isMadeWithTheObject() {
            Element method = enclosingMethod();
            return method == null || method.getKind() == ElementKind.CONSTRUCTOR;
        }

        @Override
        public Void visitForLoop(ForLoopTree tree, Void nothing) {
            rule(9, tree.getCondition() != null && tree.getInitializer().size() == 1 && tree.getUpdate().size() == 1,
                    tree);
            return super.visitForLoop(tree, nothing);
        }

        @Override
        public Void visitTypeCast(TypeCastTree tree, Void nothing) {
            rule(7, trees.getTypeMirror(new TreePath(getCurrentPath(), tree.getType())).getKind().isPrimitive(), tree);
            return super.visitTypeCast(tree, nothing);
        }

        @Override
        public Void visitBinary(BinaryTree tree, Void nothing) {
            rule(10, trees.getTypeMirror(getCurrentPath()).getKind().isPrimitive(), tree);
            return super.visitBinary(tree, nothing);
        }

        @Override
        public Void visitCompoundAssignment(CompoundAssignmentTree tree, Void nothing) {
            rule(10, trees.getTypeMirror(getCurrentPath()).getKind().isPrimitive(), tree);
            return super.visitCompoundAssignment(tree, nothing);
        }

        @Override
        public Void visitMemberSelect(MemberSelectTree tree, Void nothing) {
            namesOnlyWhatIsListed(tree);
            return super.visitMemberSelect(tree, nothing);
        }

        @Override
        public Void visitIdentifier(IdentifierTree tree, Void nothing) {
            namesOnlyWhatIsListed(tree);
            return super.visitIdentifier(tree, nothing);
        }

        private void namesOnlyWhatIsListed(Tree tree) {
            Element named = trees.getElement(getCurrentPath());
            if (named instanceof TypeElement type) {
                String name = type.getQualifiedName().toString();
                rule(4, isOwn(name) || name.equals("java.lang.Math")
                        || name.startsWith("java.lang.") && THROWN.contains(type.getSimpleName().toString()), tree);
            }
        }

        private static boolean isOwn(String name) {
            return name.equals("StockRows2") || name.startsWith("StockRows2.");
        }
    }

    /** What an object answers behind 512 calls is free, but rule 7 lets no call throw by itself in any state. */
    private static void longLives() throws IllegalAccessException {
        Method[] face = Arrays.stream(StockRows2.class.getDeclaredMethods())
                .filter(method -> java.lang.reflect.Modifier.isPublic(method.getModifiers()))
                .sorted(Comparator.comparing(Method::getName)).toArray(Method[]::new);
        int[] far = {Integer.MIN_VALUE, Integer.MIN_VALUE + 1, -10_000, -1, 99, 9_999, 10_000, 99_999, 100_000,
            Integer.MAX_VALUE - 1, Integer.MAX_VALUE};
        int[] tops = {2, 4, 8, 10, 20, 30, 60, 80, 1_000, 10_000};
        for (int life = 0; life < 20; life++) {
            Random random = new Random(life);
            StockRows2 x = new StockRows2();
            for (int i = 0; i < 20_000; i++) {
                Method method = face[random.nextInt(face.length)];
                Object[] arguments = new Object[method.getParameterCount()];
                for (int p = 0; p < arguments.length; p++) {
                    arguments[p] = random.nextInt(30) == 0 ? far[random.nextInt(far.length)]
                            : random.nextInt(tops[random.nextInt(p < 2 ? 4 : tops.length)]);
                }
                throwsOnlyItsOwn(x, method, arguments);
            }
        }
    }

    private static void throwsOnlyItsOwn(StockRows2 x, Method method, Object[] arguments)
            throws IllegalAccessException {
        try {
            method.invoke(x, arguments);
        } catch (InvocationTargetException e) {
            // By the class itself: ArrayIndexOutOfBoundsException is no IndexOutOfBoundsException here.
            if (!Arrays.asList(method.getExceptionTypes()).contains(e.getCause().getClass())) {
                tell("rule 7: " + method.getName() + Arrays.toString(arguments) + " throws " + e.getCause());
            }
        }
    }

    /** So many uses and so much waste of one lot that an int can't hold them: still no call throws by itself. */
    private static void numbersBeyondInts() {
        StockRows2 x = new StockRows2();
        x.store();
        x.lot(0, 9_999);
        x.kit(0, 0, 20);
        for (int i = 0; i < 450_000; i++) {
            x.bring(0, 0, 9_999);
            x.give(0, 0);
            x.back(0, 0, 20);
            if (i % 2 == 0) {
                x.use(0, 0, x.has(0, 0));
            } else {
                x.waste(0, 0, x.has(0, 0), 1);
            }
            x.lotAt(0, 2);
            x.lotAt(0, 3);
        }
    }
}
