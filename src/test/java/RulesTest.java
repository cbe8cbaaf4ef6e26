import com.sun.source.tree.BinaryTree;
import com.sun.source.tree.ClassTree;
import com.sun.source.tree.CompilationUnitTree;
import com.sun.source.tree.ExpressionTree;
import com.sun.source.tree.ForLoopTree;
import com.sun.source.tree.IdentifierTree;
import com.sun.source.tree.ImportTree;
import com.sun.source.tree.LiteralTree;
import com.sun.source.tree.MemberSelectTree;
import com.sun.source.tree.MethodInvocationTree;
import com.sun.source.tree.MethodTree;
import com.sun.source.tree.NewArrayTree;
import com.sun.source.tree.NewClassTree;
import com.sun.source.tree.Tree;
import com.sun.source.tree.TypeCastTree;
import com.sun.source.tree.VariableTree;
import com.sun.source.tree.WhileLoopTree;
import com.sun.source.util.JavacTask;
import com.sun.source.util.SourcePositions;
import com.sun.source.util.TreePath;
import com.sun.source.util.TreePathScanner;
import com.sun.source.util.Trees;
import java.nio.file.Path;
import java.util.EnumSet;
import java.util.HashSet;
import java.util.List;
import java.util.Map;
import java.util.Set;
import java.util.TreeMap;
import java.util.TreeSet;
import javax.lang.model.element.Element;
import javax.lang.model.element.ElementKind;
import javax.lang.model.element.ExecutableElement;
import javax.lang.model.element.Modifier;
import javax.lang.model.element.VariableElement;
import javax.tools.JavaCompiler;
import javax.tools.StandardJavaFileManager;
import javax.tools.ToolProvider;

/**
 * LANGUAGE.md's rules, as far as the class's own tree of code shows them; the number of the rule stands in each
 * complaint. FaceTest has the public face (rule 1), RoomTest what a run makes (rule 12). Run from the project's folder.
 */
public final class RulesTest {
    private static final Check C = new Check("RulesTest");
    private static final String SOURCE = "src/main/java/MonthPush.java";

    private static final Set<Tree.Kind> RULED_OUT = EnumSet.of(
        Tree.Kind.THROW, Tree.Kind.TRY, Tree.Kind.CATCH, Tree.Kind.SYNCHRONIZED, Tree.Kind.ASSERT,
        Tree.Kind.LAMBDA_EXPRESSION, Tree.Kind.MEMBER_REFERENCE, Tree.Kind.ANNOTATION, Tree.Kind.PACKAGE);

    /* The part of rule 4's list that the class has a use for: what else is called has to be looked up there first. */
    private static final Set<String> LIBRARY = Set.of(
        "String.length", "String.charAt", "Math.min", "Math.max", "Math.abs", "System.arraycopy", "Arrays.fill", "Object.<init>");

    private static final Set<String> PLAIN_TYPES = Set.of(
        "int", "long", "short", "byte", "char", "boolean", "void", "String", "int[]", "long[]", "byte[]");

    private static final int DEEPEST = 8;
    private static final int LONGEST = 60;

    public static void main(String[] args) throws Exception {
        JavaCompiler compiler = ToolProvider.getSystemJavaCompiler();
        try (StandardJavaFileManager files = compiler.getStandardFileManager(null, null, null)) {
            JavacTask task = (JavacTask) compiler.getTask(
                null, files, null, List.of("-proc:none"), null, files.getJavaFileObjects(Path.of(SOURCE)));
            CompilationUnitTree unit = task.parse().iterator().next();
            task.analyze();
            Reader reader = new Reader(Trees.instance(task), unit);
            reader.scan(unit, null);
            reader.looksBack();
        }
        C.close();
    }

    /** Looks at each piece of code once, and at the chains of calls behind all of it. */
    private static final class Reader extends TreePathScanner<Void, Void> {
        private final Trees trees;
        private final SourcePositions places;
        private final CompilationUnitTree unit;
        private final Map<String, Set<String>> calls = new TreeMap<>();
        private final Map<String, Integer> depths = new TreeMap<>();
        private final Set<String> openNames = new TreeSet<>();
        private final Map<String, String> ownNames = new TreeMap<>();
        private final Set<String> classes = new HashSet<>();
        private String method = "";

        Reader(Trees trees, CompilationUnitTree unit) {
            this.trees = trees;
            this.unit = unit;
            this.places = trees.getSourcePositions();
        }

        private String at(Tree tree) {
            return "line " + lineOf(places.getStartPosition(unit, tree)) + ": ";
        }

        private long lineOf(long place) {
            return unit.getLineMap().getLineNumber(place);
        }

        private Element elementOf(Tree tree) {
            return trees.getElement(TreePath.getPath(unit, tree));
        }

        private static boolean isOwn(Element element) {
            return element.toString().startsWith("MonthPush") || ofOwn(element);
        }

        private static boolean ofOwn(Element element) {
            return element.getEnclosingElement() != null && element.getEnclosingElement().toString().startsWith("MonthPush");
        }

        @Override
        public Void scan(Tree tree, Void nothing) {
            if (tree != null) {
                C.holds("rules 2, 6: " + at(tree) + tree.getKind(), !RULED_OUT.contains(tree.getKind()));
            }
            return super.scan(tree, nothing);
        }

        @Override
        public Void visitImport(ImportTree tree, Void nothing) {
            C.same("rule 4: " + at(tree), tree.getQualifiedIdentifier().toString(), "java.util.Arrays");
            return super.visitImport(tree, nothing);
        }

        @Override
        public Void visitClass(ClassTree tree, Void nothing) {
            Element element = trees.getElement(getCurrentPath());
            boolean inside = element.getEnclosingElement().getKind() != ElementKind.PACKAGE;
            Set<Modifier> has = element.getModifiers();
            classes.add(element.toString());
            if (inside) {
                C.holds("rule 2: " + at(tree) + "static, not open", has.contains(Modifier.STATIC)
                    && !has.contains(Modifier.PUBLIC) && !has.contains(Modifier.PROTECTED));
                C.holds("rule 2: " + at(tree) + "a class of a class", element.getEnclosingElement().getKind().isClass());
            }
            int fields = 0;
            for (Tree member : tree.getMembers()) {
                C.holds("rule 5: " + at(member) + "no block", member.getKind() != Tree.Kind.BLOCK);
                if (member instanceof VariableTree field && !field.getModifiers().getFlags().contains(Modifier.STATIC)) {
                    fields++;
                }
            }
            C.holds("rule 11: " + at(tree) + fields + " fields", fields <= 20);
            return super.visitClass(tree, nothing);
        }

        @Override
        public Void visitMethod(MethodTree tree, Void nothing) {
            ExecutableElement element = (ExecutableElement) trees.getElement(getCurrentPath());
            String name = element.getSimpleName().toString();
            method = element.getEnclosingElement() + "." + element;
            calls.putIfAbsent(method, new TreeSet<>());
            if (element.getModifiers().contains(Modifier.PUBLIC) && !name.equals("<init>")) {
                openNames.add(name);
            } else {
                ownNames.put(method, name);
            }
            C.holds("rule 11: " + at(tree) + "parameters", tree.getParameters().size() <= 7);
            long lines = lineOf(places.getEndPosition(unit, tree)) - lineOf(places.getStartPosition(unit, tree)) + 1;
            C.holds("rule 11: " + at(tree) + lines + " lines", lines <= LONGEST);
            typeIsFine(tree, element.getReturnType().toString());
            super.visitMethod(tree, nothing);
            method = "";
            return null;
        }

        @Override
        public Void visitVariable(VariableTree tree, Void nothing) {
            VariableElement element = (VariableElement) trees.getElement(getCurrentPath());
            typeIsFine(tree, element.asType().toString());
            if (element.getModifiers().contains(Modifier.STATIC)) {
                C.holds("rule 5: " + at(tree) + "final", element.getModifiers().contains(Modifier.FINAL));
                C.holds("rule 5: " + at(tree) + "a constant", element.getConstantValue() != null);
            }
            return super.visitVariable(tree, nothing);
        }

        private void typeIsFine(Tree tree, String type) {
            String bare = type.replace("java.lang.", "");
            boolean own = bare.matches("MonthPush\\.[A-Z][A-Za-z]*(\\[\\])?");
            C.holds("rule 3: " + at(tree) + type, own || PLAIN_TYPES.contains(bare));
        }

        @Override
        public Void visitMethodInvocation(MethodInvocationTree tree, Void nothing) {
            callTo(tree, elementOf(tree.getMethodSelect()));
            return super.visitMethodInvocation(tree, nothing);
        }

        @Override
        public Void visitNewClass(NewClassTree tree, Void nothing) {
            C.holds("rule 2: " + at(tree) + "no class without a name", tree.getClassBody() == null);
            C.holds("rule 12: " + at(tree) + "made by the constructor, or as an IMAGE by keep", isMaker());
            callTo(tree, elementOf(tree));
            return super.visitNewClass(tree, nothing);
        }

        @Override
        public Void visitNewArray(NewArrayTree tree, Void nothing) {
            C.holds("rule 12: " + at(tree) + "made with its object", method.isEmpty());
            for (ExpressionTree length : tree.getDimensions()) {
                C.holds("rule 7: " + at(tree) + "a length that is told", isConstant(length));
            }
            return super.visitNewArray(tree, nothing);
        }

        private boolean isMaker() {
            return method.isEmpty() || method.equals("MonthPush.MonthPush()") || method.equals("MonthPush.keep(int)");
        }

        private void callTo(Tree tree, Element called) {
            String owner = called.getEnclosingElement().getSimpleName().toString();
            if (isOwn(called.getEnclosingElement())) {
                calls.computeIfAbsent(method, m -> new TreeSet<>()).add(called.getEnclosingElement() + "." + called);
            } else {
                String name = owner + "." + called.getSimpleName();
                C.holds("rule 4: " + at(tree) + name, LIBRARY.contains(name));
            }
        }

        @Override
        public Void visitTypeCast(TypeCastTree tree, Void nothing) {
            boolean number = tree.getType().getKind() == Tree.Kind.PRIMITIVE_TYPE;
            C.holds("rules 6, 7: " + at(tree) + "a cast of numbers alone", number);
            return super.visitTypeCast(tree, nothing);
        }

        @Override
        public Void visitBinary(BinaryTree tree, Void nothing) {
            String left = typeOf(tree.getLeftOperand());
            String right = typeOf(tree.getRightOperand());
            boolean texts = left.equals("java.lang.String") || right.equals("java.lang.String");
            C.holds("rules 6, 10: " + at(tree) + "no text joined or compared by a sign", !texts);
            return super.visitBinary(tree, nothing);
        }

        private String typeOf(Tree tree) {
            return String.valueOf(trees.getTypeMirror(TreePath.getPath(unit, tree)));
        }

        @Override
        public Void visitForLoop(ForLoopTree tree, Void nothing) {
            boolean seen = tree.getCondition() instanceof BinaryTree && tree.getUpdate().size() == 1;
            C.holds("rule 9: " + at(tree) + "a counter against a bound", seen);
            return super.visitForLoop(tree, nothing);
        }

        @Override
        public Void visitWhileLoop(WhileLoopTree tree, Void nothing) {
            String body = tree.getStatement().toString();
            String counter = tree.getCondition().toString().replaceAll("\\(*([a-z]+) < .*", "$1");
            C.holds("rule 9: " + at(tree) + counter + " counts on", body.contains(counter + "++"));
            return super.visitWhileLoop(tree, nothing);
        }

        private boolean isConstant(ExpressionTree tree) {
            if (tree instanceof LiteralTree) {
                return true;
            }
            if (tree instanceof BinaryTree two) {
                return isConstant(two.getLeftOperand()) && isConstant(two.getRightOperand());
            }
            boolean named = tree instanceof IdentifierTree || tree instanceof MemberSelectTree;
            return named && elementOf(tree) instanceof VariableElement v && v.getConstantValue() != null;
        }

        // ------------------------------------------------------------ when all is read

        void looksBack() {
            C.holds("rule 11: " + classes.size() + " classes", classes.size() <= 12);
            for (Map.Entry<String, String> own : ownNames.entrySet()) {
                C.holds("rule 1: " + own.getKey() + " has a public name", !openNames.contains(own.getValue()));
            }
            for (String each : calls.keySet()) {
                int depth = depthOf(each, new HashSet<>());
                C.holds("rule 11: " + each + " goes " + depth + " deep", depth <= DEEPEST);
            }
        }

        private int depthOf(String called, Set<String> open) {
            if (depths.containsKey(called)) {
                return depths.get(called);
            }
            C.holds("rule 8: " + called + " calls itself", open.add(called));
            int below = 0;
            if (open.size() <= 60) {
                for (String next : calls.getOrDefault(called, Set.of())) {
                    below = Math.max(below, open.contains(next) ? 99 : depthOf(next, open));
                }
            }
            open.remove(called);
            depths.put(called, below + 1);
            return below + 1;
        }
    }
}
