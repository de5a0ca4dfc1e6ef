import com.sun.source.tree.AnnotationTree;
import com.sun.source.tree.AssertTree;
import com.sun.source.tree.BinaryTree;
import com.sun.source.tree.CatchTree;
import com.sun.source.tree.ClassTree;
import com.sun.source.tree.CompilationUnitTree;
import com.sun.source.tree.DoWhileLoopTree;
import com.sun.source.tree.IdentifierTree;
import com.sun.source.tree.ImportTree;
import com.sun.source.tree.LambdaExpressionTree;
import com.sun.source.tree.LiteralTree;
import com.sun.source.tree.MemberReferenceTree;
import com.sun.source.tree.MemberSelectTree;
import com.sun.source.tree.MethodInvocationTree;
import com.sun.source.tree.MethodTree;
import com.sun.source.tree.NewClassTree;
import com.sun.source.tree.SynchronizedTree;
import com.sun.source.tree.ThrowTree;
import com.sun.source.tree.Tree;
import com.sun.source.tree.TryTree;
import com.sun.source.tree.VariableTree;
import com.sun.source.util.JavacTask;
import com.sun.source.util.SourcePositions;
import com.sun.source.util.TreeScanner;
import com.sun.source.util.Trees;
import java.io.File;
import java.nio.charset.StandardCharsets;
import java.nio.file.Files;
import java.nio.file.Path;
import java.util.ArrayList;
import java.util.HashMap;
import java.util.HashSet;
import java.util.List;
import java.util.Map;
import java.util.Set;
import java.util.TreeMap;
import java.util.TreeSet;
import javax.lang.model.element.Modifier;
import javax.tools.JavaCompiler;
import javax.tools.StandardJavaFileManager;
import javax.tools.ToolProvider;

/** What can be seen in the source of the rules in ../shared/LANGUAGE.md. */
public final class LanguageRules {
    private static final Path SOURCE = Path.of("src/main/java/GlassBox.java");
    private static final Set<String> FACE = Set.of(
        "word", "terms", "order", "opening", "who", "sentence", "weigh", "row", "fixed", "odds", "fits", "best", "table",
        "plan", "feed", "end", "habit", "fault", "run", "move", "worth", "guessing", "write", "box", "chain", "link",
        "tired", "relieve", "change", "glossary", "whose", "read", "parting", "image", "back", "count", "status");
    private static final Set<String> IMPORTS = Set.of("java.util.Arrays", "java.util.ArrayList", "java.util.List");
    private static final Set<String> TYPES = Set.of(
        "int", "long", "boolean", "char", "String", "int[]", "long[]", "char[]", "byte[]");
    private static final Map<String, Set<String>> LIBRARY = Map.of(
        "Math", Set.of("min", "max", "abs", "floorDiv", "floorMod"),
        "Integer", Set.of("bitCount", "compare", "min", "max"),
        "Long", Set.of("compare", "min", "max"),
        "Arrays", Set.of("fill", "copyOf", "copyOfRange"),
        "System", Set.of("arraycopy"));
    private static final int CLASSES = 12;
    private static final int FIELDS = 20;
    private static final int PARAMETERS = 7;
    private static final int LINES = 60;
    private static final int DEEPEST = 8;

    private static int wrong = 0;

    public static void main(String[] args) throws Exception {
        String text = Files.readString(SOURCE, StandardCharsets.ISO_8859_1);
        check(text.chars().allMatch(c -> c < 128), "rule 4: a sign above 127");
        check(!text.startsWith("package"), "rule 1: a package line");
        JavaCompiler compiler = ToolProvider.getSystemJavaCompiler();
        try (StandardJavaFileManager files = compiler.getStandardFileManager(null, null, null)) {
            JavacTask task = (JavacTask) compiler.getTask(null, files, null, List.of("-proc:none"), null,
                files.getJavaFileObjects(new File(SOURCE.toString())));
            CompilationUnitTree unit = task.parse().iterator().next();
            Looker looker = new Looker(unit, Trees.instance(task).getSourcePositions());
            looker.scan(unit, null);
            looker.checkAll();
        }
        System.out.println(wrong == 0 ? "the rules are kept as far as can be seen" : wrong + " rules are not kept");
        if (wrong != 0) {
            System.exit(1);
        }
    }

    private static void check(boolean well, String what) {
        if (!well) {
            wrong++;
            System.out.println(what);
        }
    }

    private static final class Looker extends TreeScanner<Void, Void> {
        final CompilationUnitTree unit;
        final SourcePositions positions;
        final List<String> outer = new ArrayList<>();
        final Map<String, Set<String>> calls = new TreeMap<>();
        final Map<String, Boolean> recursionMayBe = new HashMap<>();
        final Set<String> shown = new TreeSet<>();
        String method = null;
        int classes = 0;

        Looker(CompilationUnitTree unit, SourcePositions positions) {
            this.unit = unit;
            this.positions = positions;
        }

        private long line(Tree tree) {
            return unit.getLineMap().getLineNumber(positions.getStartPosition(unit, tree));
        }

        private void not(Tree tree, String what) {
            check(false, "line " + line(tree) + ": " + what);
        }

        @Override
        public Void visitImport(ImportTree tree, Void v) {
            check(IMPORTS.contains(tree.getQualifiedIdentifier().toString()), "rule 4: " + tree);
            return null;
        }

        @Override
        public Void visitClass(ClassTree tree, Void v) {
            classes++;
            Set<Modifier> flags = tree.getModifiers().getFlags();
            if (outer.isEmpty()) {
                check(flags.equals(Set.of(Modifier.PUBLIC, Modifier.FINAL)), "rule 1: the class is public and final");
            } else {
                check(flags.contains(Modifier.STATIC), "rule 2: " + tree.getSimpleName() + " is static");
                check(!flags.contains(Modifier.PUBLIC) && !flags.contains(Modifier.PROTECTED), "rule 1: " + tree.getSimpleName());
                check(method == null, "rule 2: a class in a method, " + tree.getSimpleName());
            }
            outer.add(tree.getSimpleName().toString());
            int fields = 0;
            for (Tree member : tree.getMembers()) {
                if (member instanceof VariableTree) {
                    fields += fieldCounts((VariableTree) member) ? 1 : 0;
                }
                if (member.getKind() == Tree.Kind.BLOCK) {
                    not(member, "rule 5: an initialiser block");
                }
            }
            check(fields <= FIELDS, "rule 11: " + tree.getSimpleName() + " has " + fields + " fields");
            super.visitClass(tree, v);
            outer.remove(outer.size() - 1);
            return null;
        }

        /** Whether it is a field beside the constants. */
        private boolean fieldCounts(VariableTree field) {
            Set<Modifier> flags = field.getModifiers().getFlags();
            if (outer.size() == 1) {
                if (flags.contains(Modifier.PUBLIC)) {
                    shown.add(field.getName().toString());
                } else if (!flags.contains(Modifier.PRIVATE)) {
                    not(field, "rule 1: " + field.getName() + " can be seen");
                }
            }
            if (!flags.contains(Modifier.STATIC)) {
                return true;
            }
            if (!flags.contains(Modifier.FINAL) || !TYPES.contains(field.getType().toString())) {
                not(field, "rule 5: " + field.getName());
            }
            return false;
        }

        @Override
        public Void visitMethod(MethodTree tree, Void v) {
            String name = tree.getName().toString();
            Set<Modifier> flags = tree.getModifiers().getFlags();
            boolean ofFace = outer.size() == 1 && flags.contains(Modifier.PUBLIC);
            boolean constructor = name.equals("<init>");
            if (ofFace) {
                shown.add(name);
            } else if (!constructor && FACE.contains(name)) {
                not(tree, "rule 1: " + name + " bears a public name");
            }
            if (outer.size() == 1 && !ofFace && !flags.contains(Modifier.PRIVATE)) {
                not(tree, "rule 1: " + name + " can be seen");
            }
            if (tree.getParameters().size() > PARAMETERS) {
                not(tree, "rule 11: " + name + " has " + tree.getParameters().size() + " parameters");
            }
            long end = unit.getLineMap().getLineNumber(positions.getEndPosition(unit, tree));
            if (end - line(tree) + 1 > LINES) {
                not(tree, "rule 11: " + name + " has " + (end - line(tree) + 1) + " lines");
            }
            String before = method;
            method = key(name, tree.getParameters().size());
            calls.computeIfAbsent(method, k -> new TreeSet<>());
            recursionMayBe.merge(method, flags.contains(Modifier.PRIVATE), (a, b) -> a && b);
            super.visitMethod(tree, v);
            method = before;
            return null;
        }

        private static String key(String name, int parameters) {
            return name + "/" + parameters;
        }

        @Override
        public Void visitMethodInvocation(MethodInvocationTree tree, Void v) {
            String name = tree.getMethodSelect() instanceof MemberSelectTree
                ? ((MemberSelectTree) tree.getMethodSelect()).getIdentifier().toString()
                : tree.getMethodSelect().toString();
            if (method != null) {
                calls.get(method).add(key(name, tree.getArguments().size()));
            }
            return super.visitMethodInvocation(tree, v);
        }

        @Override
        public Void visitMemberSelect(MemberSelectTree tree, Void v) {
            Set<String> allowed = LIBRARY.get(tree.getExpression().toString());
            if (allowed != null && !allowed.contains(tree.getIdentifier().toString())) {
                not(tree, "rule 4: " + tree);
            }
            return super.visitMemberSelect(tree, v);
        }

        @Override
        public Void visitIdentifier(IdentifierTree tree, Void v) {
            String name = tree.getName().toString();
            if (Set.of("Object", "Thread", "Random", "Runtime", "Class", "Exception", "Double", "Float").contains(name)) {
                not(tree, "rule 4: " + name);
            }
            return super.visitIdentifier(tree, v);
        }

        @Override
        public Void visitBinary(BinaryTree tree, Void v) {
            boolean texts = tree.getLeftOperand().getKind() == Tree.Kind.STRING_LITERAL
                || tree.getRightOperand().getKind() == Tree.Kind.STRING_LITERAL;
            if (texts) {
                not(tree, "rule 10: a text joined or compared by a sign");
            }
            return super.visitBinary(tree, v);
        }

        @Override
        public Void visitThrow(ThrowTree tree, Void v) {
            not(tree, "rule 6: throw");
            return super.visitThrow(tree, v);
        }

        @Override
        public Void visitTry(TryTree tree, Void v) {
            not(tree, "rule 6: try");
            return super.visitTry(tree, v);
        }

        @Override
        public Void visitCatch(CatchTree tree, Void v) {
            not(tree, "rule 6: catch");
            return super.visitCatch(tree, v);
        }

        @Override
        public Void visitAssert(AssertTree tree, Void v) {
            not(tree, "rule 6: assert");
            return super.visitAssert(tree, v);
        }

        @Override
        public Void visitSynchronized(SynchronizedTree tree, Void v) {
            not(tree, "rule 6: synchronized");
            return super.visitSynchronized(tree, v);
        }

        @Override
        public Void visitLambdaExpression(LambdaExpressionTree tree, Void v) {
            not(tree, "rule 2: a lambda");
            return super.visitLambdaExpression(tree, v);
        }

        @Override
        public Void visitMemberReference(MemberReferenceTree tree, Void v) {
            not(tree, "rule 2: a method reference");
            return super.visitMemberReference(tree, v);
        }

        @Override
        public Void visitAnnotation(AnnotationTree tree, Void v) {
            not(tree, "an annotation");
            return super.visitAnnotation(tree, v);
        }

        @Override
        public Void visitNewClass(NewClassTree tree, Void v) {
            if (tree.getClassBody() != null) {
                not(tree, "rule 2: an anonymous class");
            }
            return super.visitNewClass(tree, v);
        }

        @Override
        public Void visitDoWhileLoop(DoWhileLoopTree tree, Void v) {
            not(tree, "rule 9: a loop without a counter in its head");
            return super.visitDoWhileLoop(tree, v);
        }

        @Override
        public Void visitLiteral(LiteralTree tree, Void v) {
            if (tree.getKind() == Tree.Kind.DOUBLE_LITERAL || tree.getKind() == Tree.Kind.FLOAT_LITERAL) {
                not(tree, "a fraction where the document has none");
            }
            return super.visitLiteral(tree, v);
        }

        void checkAll() {
            check(classes <= CLASSES, "rule 11: " + classes + " classes");
            Set<String> due = new TreeSet<>(FACE);
            due.add("NONE");
            due.add("<init>");
            check(shown.equals(due), "rule 1: the face is " + shown);
            for (String from : calls.keySet()) {
                calls.get(from).retainAll(calls.keySet());
            }
            for (String from : calls.keySet()) {
                if (reaches(from, from)) {
                    check(recursionMayBe.get(from), "rule 8: " + from + " comes back to itself and is not private");
                }
                int deep = depth(from, new HashSet<>());
                check(deep <= DEEPEST, "rule 11: calls from " + from + " go " + deep + " deep");
            }
        }

        private boolean reaches(String from, String to) {
            Set<String> seen = new HashSet<>();
            List<String> open = new ArrayList<>(calls.get(from));
            while (!open.isEmpty()) {
                String at = open.remove(open.size() - 1);
                if (at.equals(to)) {
                    return true;
                }
                if (seen.add(at)) {
                    open.addAll(calls.get(at));
                }
            }
            return false;
        }

        /** Methods that come back to one another count as one. */
        private int depth(String from, Set<String> above) {
            Set<String> group = new HashSet<>();
            group.add(from);
            for (String other : calls.keySet()) {
                if (reaches(from, other) && reaches(other, from)) {
                    group.add(other);
                }
            }
            int deepest = 0;
            for (String one : group) {
                for (String next : calls.get(one)) {
                    if (!group.contains(next)) {
                        deepest = Math.max(deepest, depth(next, above));
                    }
                }
            }
            return deepest + 1;
        }
    }
}
