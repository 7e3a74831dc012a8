import com.sun.source.tree.AssertTree;
import com.sun.source.tree.BinaryTree;
import com.sun.source.tree.BlockTree;
import com.sun.source.tree.ClassTree;
import com.sun.source.tree.CompilationUnitTree;
import com.sun.source.tree.ExpressionTree;
import com.sun.source.tree.ForLoopTree;
import com.sun.source.tree.ImportTree;
import com.sun.source.tree.LambdaExpressionTree;
import com.sun.source.tree.LiteralTree;
import com.sun.source.tree.MemberReferenceTree;
import com.sun.source.tree.MethodInvocationTree;
import com.sun.source.tree.MethodTree;
import com.sun.source.tree.NewClassTree;
import com.sun.source.tree.SynchronizedTree;
import com.sun.source.tree.ThrowTree;
import com.sun.source.tree.Tree;
import com.sun.source.tree.TryTree;
import com.sun.source.tree.VariableTree;
import com.sun.source.tree.WhileLoopTree;
import com.sun.source.util.JavacTask;
import com.sun.source.util.TreePathScanner;
import com.sun.source.util.Trees;
import java.io.File;
import java.io.IOException;
import java.util.HashMap;
import java.util.HashSet;
import java.util.LinkedHashSet;
import java.util.List;
import java.util.Map;
import java.util.Set;
import java.util.TreeSet;
import javax.lang.model.element.Element;
import javax.lang.model.element.ElementKind;
import javax.lang.model.element.ExecutableElement;
import javax.lang.model.element.Modifier;
import javax.lang.model.type.ArrayType;
import javax.lang.model.type.DeclaredType;
import javax.lang.model.type.TypeKind;
import javax.lang.model.type.TypeMirror;
import javax.tools.JavaCompiler;
import javax.tools.StandardJavaFileManager;
import javax.tools.ToolProvider;

/**
 * The rules of ../shared/LANGUAGE.md that can be read off the text of the class, as the compiler understands it; where
 * a rule says "some" so many, there is some room here too.
 */
public final class LanguageTest {
    private enum Rule {
        FILE("1: one class in a file without a package, no private method with the name of a public one"),
        KINDS("2: no lambda, no method reference"),
        TYPES("3: numbers, own classes, texts, lists, and rows of these"),
        LIBRARY("4: of the library what is listed"),
        STATIC("5: static fields are final, no static block"),
        THROWS("6: throw new E() or E of a written text, not in a constructor"),
        CATCHES("6: no finally, no resources, no synchronized, no assert"),
        LOOPS("9: each loop has something that ends it"),
        TEXTS("10: no texts joined by +"),
        SIZES("11: parameters, lines of a method, fields, classes"),
        DEEP("11: calls that are no recursion, at most eight below that of the face"),
        MADE("12: a constructor calls no method of its own object that another class could override");

        final String text;
        final Set<String> faults = new TreeSet<>();

        Rule(String text) {
            this.text = text;
        }
    }

    private static final int MOST_LINES = 70;
    private static final int MOST_FIELDS = 24;
    private static final int MOST_CLASSES = 14;
    private static final Set<String> EXCEPTIONS = Set.of("IllegalStateException", "IllegalArgumentException",
        "IndexOutOfBoundsException", "ArithmeticException", "UnsupportedOperationException", "NoSuchElementException",
        "RuntimeException");
    private static final Set<String> NAMED = Set.of("String", "StringBuilder", "Integer", "ArrayList", "List", "Iterator",
        "Iterable", "Comparable", "Object");
    private static final Map<String, Set<String>> CALLED = Map.of(
        "String", Set.of("length", "charAt", "isEmpty", "equals", "indexOf", "substring", "toCharArray", "<init>"),
        "StringBuilder", Set.of("<init>", "append", "charAt", "setCharAt", "setLength", "deleteCharAt", "reverse",
            "length", "toString"),
        "ArrayList", Set.of("<init>", "add", "get", "set", "remove", "size", "isEmpty", "clear", "iterator"),
        "List", Set.of("add", "get", "set", "remove", "size", "isEmpty", "clear", "iterator", "of"),
        "Iterator", Set.of("hasNext", "next"),
        "Arrays", Set.of("copyOf", "copyOfRange", "fill"),
        "System", Set.of("arraycopy"),
        "Enum", Set.of("<init>", "ordinal", "name", "compareTo"),
        "Record", Set.of("<init>"),
        "Object", Set.of("<init>"));

    private final Map<ExecutableElement, Set<ExecutableElement>> calls = new HashMap<>();
    private final Map<ExecutableElement, Integer> depths = new HashMap<>();
    private final Set<String> publicNames = new HashSet<>();
    private final Set<String> privateNames = new HashSet<>();
    private final Set<Element> own = new HashSet<>();
    private CompilationUnitTree unit;
    private Trees trees;

    public static void main(String[] arguments) throws IOException {
        if (ToolProvider.getSystemJavaCompiler() == null) {
            System.out.println("this java has no compiler with it: the rules were not looked at");
            return;
        }
        new LanguageTest().read(new File(arguments.length > 0 ? arguments[0] : "src/main/java/Syzygium.java"));
        for (Rule rule : Rule.values()) {
            Calls.test(rule.text, () -> Calls.due(rule.faults, "[]"));
        }
        Calls.end();
    }

    private void read(File file) throws IOException {
        JavaCompiler compiler = ToolProvider.getSystemJavaCompiler();
        try (StandardJavaFileManager files = compiler.getStandardFileManager(null, null, null)) {
            JavacTask task = (JavacTask) compiler.getTask(null, files, null, List.of("-proc:none"), null,
                files.getJavaFileObjects(file));
            unit = task.parse().iterator().next();
            task.analyze();
            trees = Trees.instance(task);
            new Classes().scan(unit, null);
            new Reader().scan(unit, null);
        }
        privateNames.retainAll(publicNames);
        Rule.FILE.faults.addAll(privateNames);
        if (unit.getPackageName() != null || unit.getTypeDecls().size() != 1) {
            Rule.FILE.faults.add("a package, or more than one class");
        }
        if (own.size() > MOST_CLASSES) {
            Rule.SIZES.faults.add(own.size() + " classes");
        }
        for (ExecutableElement method : calls.keySet()) {
            int below = depth(method, new LinkedHashSet<>()) - 1;
            if (below > 8) {
                Rule.DEEP.faults.add(below + " calls below " + method);
            }
        }
    }

    /** How many calls stand open at most, that of this method counted; one that is open already counts nothing. */
    private int depth(ExecutableElement method, Set<ExecutableElement> open) {
        if (!open.add(method)) {
            return 0;
        }
        if (!depths.containsKey(method)) {
            int most = 0;
            for (ExecutableElement called : calls.getOrDefault(method, Set.of())) {
                most = Math.max(most, depth(called, open));
            }
            depths.put(method, most + 1);
        }
        open.remove(method);
        return depths.get(method);
    }

    private static boolean isNumber(TypeMirror type) {
        return type.getKind().isPrimitive();
    }

    /** Finds the classes of the file first: what else is named is the library's. */
    private final class Classes extends TreePathScanner<Void, Void> {
        @Override
        public Void visitClass(ClassTree tree, Void nothing) {
            own.add(trees.getElement(getCurrentPath()));
            return super.visitClass(tree, nothing);
        }
    }

    private final class Reader extends TreePathScanner<Void, Void> {
        private ExecutableElement method;

        private void fault(Rule rule, Object what) {
            long start = trees.getSourcePositions().getStartPosition(unit, getCurrentPath().getLeaf());
            rule.faults.add("line " + unit.getLineMap().getLineNumber(start) + ": " + what);
        }

        private void calls(ExecutableElement called) {
            if (method != null) {
                calls.get(method).add(called);
            }
        }

        /** What the library may be asked for: the lists above, and what Integer, Long and Math do with whole numbers. */
        private boolean isListed(ExecutableElement called) {
            String owner = called.getEnclosingElement().getSimpleName().toString();
            String name = called.getSimpleName().toString();
            if (owner.equals("Integer") || owner.equals("Long") || owner.equals("Math")) {
                boolean isWhole = !name.endsWith("Exact");
                for (Element parameter : called.getParameters()) {
                    TypeKind kind = parameter.asType().getKind();
                    isWhole &= kind != TypeKind.DOUBLE && kind != TypeKind.FLOAT;
                }
                return isWhole;
            }
            return name.equals("clone") || CALLED.getOrDefault(owner, Set.of()).contains(name)
                || EXCEPTIONS.contains(owner) && name.equals("<init>");
        }

        @Override
        public Void visitImport(ImportTree tree, Void nothing) {
            String name = tree.getQualifiedIdentifier().toString();
            if (tree.isStatic() || !name.startsWith("java.util.") || name.indexOf('.', 10) >= 0) {
                fault(Rule.LIBRARY, tree);
            }
            return null;
        }

        @Override
        public Void visitClass(ClassTree tree, Void nothing) {
            int fields = 0;
            for (Tree member : tree.getMembers()) {
                if (member instanceof VariableTree) {
                    Set<Modifier> flags = ((VariableTree) member).getModifiers().getFlags();
                    boolean isStatic = flags.contains(Modifier.STATIC);
                    fields += isStatic ? 0 : 1;
                    if (isStatic && !flags.contains(Modifier.FINAL)) {
                        fault(Rule.STATIC, member);
                    }
                } else if (member instanceof BlockTree && ((BlockTree) member).isStatic()) {
                    fault(Rule.STATIC, "a block");
                }
            }
            if (fields > MOST_FIELDS) {
                fault(Rule.SIZES, fields + " fields");
            }
            return super.visitClass(tree, nothing);
        }

        @Override
        public Void visitMethod(MethodTree tree, Void nothing) {
            ExecutableElement outer = method;
            method = (ExecutableElement) trees.getElement(getCurrentPath());
            calls.computeIfAbsent(method, m -> new HashSet<>());
            String name = tree.getName().toString();
            boolean isOfFace = method.getEnclosingElement().getEnclosingElement().getKind() == ElementKind.PACKAGE;
            if (isOfFace && method.getModifiers().contains(Modifier.PUBLIC)) {
                publicNames.add(name);
            } else if (method.getModifiers().contains(Modifier.PRIVATE) && method.getKind() == ElementKind.METHOD) {
                privateNames.add(name);
            }
            if (tree.getParameters().size() > 7) {
                fault(Rule.SIZES, name + " takes " + tree.getParameters().size());
            }
            long start = trees.getSourcePositions().getStartPosition(unit, tree);
            long end = trees.getSourcePositions().getEndPosition(unit, tree);
            if (end > 0 && unit.getLineMap().getLineNumber(end) - unit.getLineMap().getLineNumber(start) >= MOST_LINES) {
                fault(Rule.SIZES, name + " is long");
            }
            super.visitMethod(tree, nothing);
            method = outer;
            return null;
        }

        @Override
        public Void visitVariable(VariableTree tree, Void nothing) {
            TypeMirror type = trees.getElement(getCurrentPath()).asType();
            boolean isFine = isNumber(type) || isNamed(type) || type.getKind() == TypeKind.TYPEVAR;
            if (type.getKind() == TypeKind.ARRAY) {
                TypeMirror part = ((ArrayType) type).getComponentType();
                isFine = isNumber(part) || isNamed(part) || part.getKind() == TypeKind.TYPEVAR
                    || part.getKind() == TypeKind.ARRAY && isNumber(((ArrayType) part).getComponentType());
            }
            if (!isFine) {
                fault(Rule.TYPES, type);
            }
            return super.visitVariable(tree, nothing);
        }

        private boolean isNamed(TypeMirror type) {
            if (type.getKind() != TypeKind.DECLARED) {
                return type.getKind() == TypeKind.UNION;
            }
            Element element = ((DeclaredType) type).asElement();
            String name = element.getSimpleName().toString();
            return own.contains(element) || NAMED.contains(name) || EXCEPTIONS.contains(name);
        }

        @Override
        public Void visitMethodInvocation(MethodInvocationTree tree, Void nothing) {
            ExecutableElement called = (ExecutableElement) trees.getElement(getCurrentPath());
            Element owner = called.getEnclosingElement();
            if (own.contains(owner)) {
                calls(called);
                boolean isMade = method != null && method.getKind() == ElementKind.CONSTRUCTOR
                    && owner == method.getEnclosingElement() && called.getKind() == ElementKind.METHOD;
                boolean isSafe = called.getModifiers().contains(Modifier.STATIC)
                    || called.getModifiers().contains(Modifier.PRIVATE) || called.getModifiers().contains(Modifier.FINAL)
                    || owner.getModifiers().contains(Modifier.FINAL);
                if (isMade && !isSafe) {
                    fault(Rule.MADE, tree);
                }
            } else if (!isListed(called)) {
                fault(Rule.LIBRARY, tree);
            }
            return super.visitMethodInvocation(tree, nothing);
        }

        @Override
        public Void visitNewClass(NewClassTree tree, Void nothing) {
            ExecutableElement made = (ExecutableElement) trees.getElement(getCurrentPath());
            Element owner = made.getEnclosingElement();
            if (own.contains(owner)) {
                calls(made);
            } else if (tree.getClassBody() == null && !isListed(made)) {
                fault(Rule.LIBRARY, tree);
            }
            return super.visitNewClass(tree, nothing);
        }

        @Override
        public Void visitThrow(ThrowTree tree, Void nothing) {
            boolean isFine = method != null && method.getKind() != ElementKind.CONSTRUCTOR
                && tree.getExpression() instanceof NewClassTree;
            if (isFine) {
                NewClassTree thrown = (NewClassTree) tree.getExpression();
                isFine = EXCEPTIONS.contains(thrown.getIdentifier().toString()) && thrown.getArguments().size() <= 1;
                for (ExpressionTree text : thrown.getArguments()) {
                    isFine &= text instanceof LiteralTree && ((LiteralTree) text).getValue() instanceof String;
                }
            }
            if (!isFine) {
                fault(Rule.THROWS, tree);
            }
            return super.visitThrow(tree, nothing);
        }

        @Override
        public Void visitTry(TryTree tree, Void nothing) {
            if (tree.getFinallyBlock() != null || !tree.getResources().isEmpty()) {
                fault(Rule.CATCHES, "try");
            }
            return super.visitTry(tree, nothing);
        }

        @Override
        public Void visitSynchronized(SynchronizedTree tree, Void nothing) {
            fault(Rule.CATCHES, "synchronized");
            return super.visitSynchronized(tree, nothing);
        }

        @Override
        public Void visitAssert(AssertTree tree, Void nothing) {
            fault(Rule.CATCHES, "assert");
            return super.visitAssert(tree, nothing);
        }

        @Override
        public Void visitLambdaExpression(LambdaExpressionTree tree, Void nothing) {
            fault(Rule.KINDS, tree);
            return super.visitLambdaExpression(tree, nothing);
        }

        @Override
        public Void visitMemberReference(MemberReferenceTree tree, Void nothing) {
            fault(Rule.KINDS, tree);
            return super.visitMemberReference(tree, nothing);
        }

        @Override
        public Void visitForLoop(ForLoopTree tree, Void nothing) {
            if (tree.getCondition() == null) {
                fault(Rule.LOOPS, tree);
            }
            return super.visitForLoop(tree, nothing);
        }

        @Override
        public Void visitWhileLoop(WhileLoopTree tree, Void nothing) {
            if (tree.getCondition().toString().equals("(true)")) {
                fault(Rule.LOOPS, tree);
            }
            return super.visitWhileLoop(tree, nothing);
        }

        @Override
        public Void visitBinary(BinaryTree tree, Void nothing) {
            TypeMirror type = trees.getTypeMirror(getCurrentPath());
            if (tree.getKind() == Tree.Kind.PLUS && type != null && !isNumber(type)) {
                fault(Rule.TEXTS, tree);
            }
            return super.visitBinary(tree, nothing);
        }
    }
}
