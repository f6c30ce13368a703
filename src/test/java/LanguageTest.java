import com.sun.source.tree.ArrayAccessTree;
import com.sun.source.tree.AssertTree;
import com.sun.source.tree.BinaryTree;
import com.sun.source.tree.ClassTree;
import com.sun.source.tree.CompilationUnitTree;
import com.sun.source.tree.CompoundAssignmentTree;
import com.sun.source.tree.DoWhileLoopTree;
import com.sun.source.tree.EnhancedForLoopTree;
import com.sun.source.tree.ExpressionTree;
import com.sun.source.tree.ForLoopTree;
import com.sun.source.tree.ImportTree;
import com.sun.source.tree.InstanceOfTree;
import com.sun.source.tree.LambdaExpressionTree;
import com.sun.source.tree.LiteralTree;
import com.sun.source.tree.MemberReferenceTree;
import com.sun.source.tree.MethodInvocationTree;
import com.sun.source.tree.MethodTree;
import com.sun.source.tree.NewArrayTree;
import com.sun.source.tree.NewClassTree;
import com.sun.source.tree.SwitchTree;
import com.sun.source.tree.SynchronizedTree;
import com.sun.source.tree.ThrowTree;
import com.sun.source.tree.Tree;
import com.sun.source.tree.TryTree;
import com.sun.source.tree.VariableTree;
import com.sun.source.tree.WhileLoopTree;
import com.sun.source.util.JavacTask;
import com.sun.source.util.TreePath;
import com.sun.source.util.TreePathScanner;
import com.sun.source.util.Trees;
import java.util.ArrayDeque;
import java.util.Deque;
import java.util.HashMap;
import java.util.List;
import java.util.Map;
import java.util.Set;
import java.util.TreeMap;
import java.util.TreeSet;
import javax.lang.model.element.Element;
import javax.lang.model.element.ElementKind;
import javax.lang.model.element.Modifier;
import javax.lang.model.type.TypeMirror;
import javax.tools.JavaCompiler;
import javax.tools.StandardJavaFileManager;
import javax.tools.ToolProvider;

/** The rules of LANGUAGE.md that the compiler's own tree of the source shows; the number of each stands with it. */
public final class LanguageTest {
    private static final Due due = new Due();
    private static final Set<String> OWN = Set.of("Letterpeel", "Row", "Grove", "Meaning", "RestTable", "Pairs", "Reading");
    private static final Set<String> LIBRARY = Set.of(
            "String.length()", "String.charAt(int)", "String.isEmpty()", "String.equals(java.lang.Object)",
            "String.indexOf(int)", "String.substring(int,int)", "String.toCharArray()", "StringBuilder.append(char)",
            "StringBuilder.append(java.lang.String)", "StringBuilder.append(int)", "StringBuilder.reverse()",
            "StringBuilder.length()", "StringBuilder.toString()", "Math.max(int,int)", "Math.min(int,int)",
            "new StringBuilder()", "new IndexOutOfBoundsException(java.lang.String)",
            "new IllegalArgumentException(java.lang.String)", "new Object()");
    private static final Set<String> TYPES = Set.of("int", "long", "boolean", "char", "int[]", "char[]", "boolean[]",
            "java.lang.String", "java.lang.StringBuilder");

    private static final Map<String, Set<String>> calls = new TreeMap<>();
    private static final Map<String, Boolean> hasDepth = new TreeMap<>();

    public static void main(String[] args) throws Exception {
        JavaCompiler compiler = ToolProvider.getSystemJavaCompiler();
        StandardJavaFileManager files = compiler.getStandardFileManager(null, null, null);
        JavacTask task = (JavacTask) compiler.getTask(null, files, null, List.of("-proc:none"), null,
                files.getJavaFileObjects(args.length > 0 ? args[0] : "src/main/java/Letterpeel.java"));
        Iterable<? extends CompilationUnitTree> units = task.parse();
        task.analyze();
        for (CompilationUnitTree unit : units) {
            due.is("rule 0: a package line", unit.getPackageName(), null);
            new Looker(Trees.instance(task), unit).scan(unit, null);
        }
        recursion();
        chains();
        due.end();
    }

    private static void ruledOut(int rule, String what) {
        due.is("rule " + rule + ": " + what, true, false);
    }

    /** Rule 8: what calls itself is private, static or not, and carries its depth. */
    private static void recursion() {
        int recursive = 0;
        Map<String, Set<String>> reached = reached();
        for (String method : calls.keySet()) {
            if (reached.get(method).contains(method)) {
                recursive++;
                due.is("rule 8: " + method + " carries its depth", hasDepth.get(method), true);
            }
        }
        due.is("rule 8: there is recursion to look at", recursive > 0, true);
    }

    /** Rule 11: methods that call one another in a ring count as one link of a chain. */
    private static void chains() {
        Map<String, Set<String>> reached = reached();
        Map<String, Integer> known = new HashMap<>();
        for (String method : calls.keySet()) {
            int links = links(method, reached, known);
            due.is("rule 11: " + method + " goes " + links + " deep", links <= 8, true);
        }
    }

    private static int links(String method, Map<String, Set<String>> reached, Map<String, Integer> known) {
        if (known.containsKey(method)) {
            return known.get(method);
        }
        int most = 0;
        for (String mate : calls.keySet()) {
            boolean inRing = reached.get(method).contains(mate) && reached.get(mate).contains(method);
            if (mate.equals(method) || inRing) {
                for (String called : calls.get(mate)) {
                    if (!called.equals(method) && !reached.get(called).contains(method)) {
                        most = Math.max(most, links(called, reached, known));
                    }
                }
            }
        }
        known.put(method, most + 1);
        return most + 1;
    }

    private static Map<String, Set<String>> reached() {
        Map<String, Set<String>> all = new TreeMap<>();
        for (String method : calls.keySet()) {
            Set<String> found = new TreeSet<>();
            Deque<String> open = new ArrayDeque<>(calls.get(method));
            while (!open.isEmpty()) {
                String next = open.pop();
                if (found.add(next)) {
                    open.addAll(calls.get(next));
                }
            }
            all.put(method, found);
        }
        return all;
    }

    /** Goes through the tree; what it is handed down is the method that it is in. */
    private static final class Looker extends TreePathScanner<Void, String> {
        private final Trees trees;
        private final CompilationUnitTree unit;

        Looker(Trees trees, CompilationUnitTree unit) {
            this.trees = trees;
            this.unit = unit;
        }

        private static String nameOf(Element element) {
            return element.getEnclosingElement().getSimpleName() + "." + element;
        }

        private boolean isString(Tree tree) {
            TypeMirror type = trees.getTypeMirror(new TreePath(getCurrentPath(), tree));
            return type != null && type.toString().equals("java.lang.String");
        }

        private long lines(Tree tree) {
            long first = trees.getSourcePositions().getStartPosition(unit, tree);
            long last = trees.getSourcePositions().getEndPosition(unit, tree);
            return unit.getLineMap().getLineNumber(last) - unit.getLineMap().getLineNumber(first) + 1;
        }

        private void called(String from, Element element, String prefix) {
            String owner = element.getEnclosingElement().getSimpleName().toString();
            if (!OWN.contains(owner)) {
                String name = prefix.isEmpty() ? nameOf(element) : prefix + element.toString();
                due.is("rule 4: " + name, LIBRARY.contains(name) || name.equals("Object.Object()"), true);
                return;
            }
            if (from != null) {
                calls.get(from).add(nameOf(element));
            }
        }

        @Override public Void visitImport(ImportTree tree, String in) {
            ruledOut(4, tree.toString());
            return super.visitImport(tree, in);
        }

        @Override public Void visitClass(ClassTree tree, String in) {
            due.is("rule 2: a class in a method: " + tree.getSimpleName(), in, null);
            due.is("rule 2: " + tree.getSimpleName(), OWN.contains(tree.getSimpleName().toString()), true);
            for (Tree member : tree.getMembers()) {
                due.is("rule 5: a static block", member.getKind() == Tree.Kind.BLOCK, false);
            }
            return super.visitClass(tree, in);
        }

        @Override public Void visitMethod(MethodTree tree, String in) {
            Element element = trees.getElement(getCurrentPath());
            String name = nameOf(element);
            calls.computeIfAbsent(name, key -> new TreeSet<>());
            boolean depth = false;
            for (VariableTree parameter : tree.getParameters()) {
                depth |= parameter.getName().contentEquals("depth");
            }
            hasDepth.put(name, depth && element.getModifiers().contains(Modifier.PRIVATE));
            due.is("rule 11: parameters of " + name, tree.getParameters().size() <= 7, true);
            due.is("rule 11: " + name + " has " + lines(tree) + " lines", lines(tree) <= 60, true);
            due.is("rule 6: " + name, Set.of("equals", "hashCode", "toString").contains(tree.getName().toString()), false);
            return super.visitMethod(tree, name);
        }

        @Override public Void visitVariable(VariableTree tree, String in) {
            Element element = trees.getElement(getCurrentPath());
            String type = element.asType().toString();
            String own = type.replace("[]", "").replace("Letterpeel.", "");
            due.is("rule 3: " + type + " " + tree.getName(), TYPES.contains(type) || OWN.contains(own), true);
            if (element.getKind() == ElementKind.FIELD && element.getModifiers().contains(Modifier.STATIC)) {
                due.is("rule 5: " + tree.getName(), element.getModifiers().contains(Modifier.FINAL)
                        && Set.of("int", "int[]").contains(type) && tree.getInitializer() != null, true);
            }
            return super.visitVariable(tree, in);
        }

        @Override public Void visitMethodInvocation(MethodInvocationTree tree, String in) {
            called(in, trees.getElement(new TreePath(getCurrentPath(), tree.getMethodSelect())), "");
            return super.visitMethodInvocation(tree, in);
        }

        @Override public Void visitNewClass(NewClassTree tree, String in) {
            called(in, trees.getElement(getCurrentPath()), "new ");
            due.is("rule 2: a class without a name", tree.getClassBody(), null);
            return super.visitNewClass(tree, in);
        }

        @Override public Void visitNewArray(NewArrayTree tree, String in) {
            boolean made = in != null && tree.getDimensions().size() == 1;
            boolean inConstructor = made && isConstructor(in);
            due.is("rule 12: an array made in " + in, inConstructor || tree.getInitializers() != null, true);
            return super.visitNewArray(tree, in);
        }

        private static boolean isConstructor(String method) {
            String owner = method.substring(0, method.indexOf('.'));
            return method.startsWith(owner + "." + owner + "(");
        }

        @Override public Void visitThrow(ThrowTree tree, String in) {
            ExpressionTree thrown = tree.getExpression();
            due.is("rule 6: a throw in " + in, isConstructor(in), false);
            due.is("rule 6: what is thrown in " + in, thrown instanceof NewClassTree made
                    && Set.of("IndexOutOfBoundsException", "IllegalArgumentException").contains("" + made.getIdentifier())
                    && made.getArguments().stream().allMatch(text -> text.getKind() == Tree.Kind.STRING_LITERAL), true);
            return super.visitThrow(tree, in);
        }

        @Override public Void visitTry(TryTree tree, String in) {
            ruledOut(6, "a try in " + in);
            return super.visitTry(tree, in);
        }

        @Override public Void visitSynchronized(SynchronizedTree tree, String in) {
            ruledOut(6, "synchronized in " + in);
            return super.visitSynchronized(tree, in);
        }

        @Override public Void visitAssert(AssertTree tree, String in) {
            ruledOut(6, "assert in " + in);
            return super.visitAssert(tree, in);
        }

        @Override public Void visitInstanceOf(InstanceOfTree tree, String in) {
            ruledOut(6, "instanceof, where nothing needs it, in " + in);
            return super.visitInstanceOf(tree, in);
        }

        @Override public Void visitLambdaExpression(LambdaExpressionTree tree, String in) {
            ruledOut(2, "a lambda in " + in);
            return super.visitLambdaExpression(tree, in);
        }

        @Override public Void visitMemberReference(MemberReferenceTree tree, String in) {
            ruledOut(2, "a method reference in " + in);
            return super.visitMemberReference(tree, in);
        }

        @Override public Void visitSwitch(SwitchTree tree, String in) {
            due.is("rule 10: a switch on texts in " + in, isString(tree.getExpression()), false);
            return super.visitSwitch(tree, in);
        }

        @Override public Void visitEnhancedForLoop(EnhancedForLoopTree tree, String in) {
            due.is("rule 12: for over a list in " + in, trees.getTypeMirror(
                    new TreePath(getCurrentPath(), tree.getExpression())).toString().endsWith("[]"), true);
            return super.visitEnhancedForLoop(tree, in);
        }

        @Override public Void visitForLoop(ForLoopTree tree, String in) {
            due.is("rule 9: a bound in " + in, tree.getCondition() instanceof BinaryTree, true);
            return super.visitForLoop(tree, in);
        }

        @Override public Void visitWhileLoop(WhileLoopTree tree, String in) {
            due.is("rule 9: a bound in " + in, tree.getCondition().toString().contains("<"), true);
            return super.visitWhileLoop(tree, in);
        }

        @Override public Void visitDoWhileLoop(DoWhileLoopTree tree, String in) {
            due.is("rule 9: a bound in " + in, tree.getCondition().toString().contains("<"), true);
            return super.visitDoWhileLoop(tree, in);
        }

        @Override public Void visitBinary(BinaryTree tree, String in) {
            boolean texts = isString(tree.getLeftOperand()) || isString(tree.getRightOperand());
            due.is("rules 6, 10: texts by an operator in " + in, texts, false);
            boolean divides = tree.getKind() == Tree.Kind.DIVIDE || tree.getKind() == Tree.Kind.REMAINDER;
            if (divides) {
                String divisor = tree.getRightOperand().toString();
                due.is("rule 7: a divisor in " + in, Set.of("3", "RestTable.MOST").contains(divisor), true);
            }
            return super.visitBinary(tree, in);
        }

        @Override public Void visitCompoundAssignment(CompoundAssignmentTree tree, String in) {
            due.is("rule 10: texts joined in " + in, isString(tree.getVariable()), false);
            if (tree.getKind() == Tree.Kind.DIVIDE_ASSIGNMENT || tree.getKind() == Tree.Kind.REMAINDER_ASSIGNMENT) {
                due.is("rule 7: a divisor in " + in, tree.getExpression().toString(), "3");
            }
            return super.visitCompoundAssignment(tree, in);
        }

        @Override public Void visitLiteral(LiteralTree tree, String in) {
            if (tree.getValue() instanceof String text) {
                due.is("rule 4: the signs of " + text, text.chars().allMatch(sign -> sign >= 1 && sign <= 127), true);
            }
            due.is("rule 7: null in " + in, tree.getKind() == Tree.Kind.NULL_LITERAL, false);
            return super.visitLiteral(tree, in);
        }

        /** Rule 7: the method that uses an index is to hold it against the length of that very array. */
        @Override public Void visitArrayAccess(ArrayAccessTree tree, String in) {
            String array = tree.getExpression().toString();
            String index = tree.getIndex().toString().replaceAll(" - 1$", "");
            boolean tested = isHeldAgainst(trees.getTree(methodOf()).getBody().toString(), index, array);
            // grow() lets hasRoom() do that for it, of the node that it makes.
            boolean inGrow = in.equals("Grove.grow(int,int)") && index.equals("node");
            due.is("rule 7: the index of " + tree + " in " + in,
                    tested || inGrow && isHeldAgainst(unit.toString(), "nodes", array), true);
            return super.visitArrayAccess(tree, in);
        }

        private static boolean isHeldAgainst(String body, String index, String array) {
            return body.matches("(?s).*\\b" + index + " (<|<=|>=) " + array + "\\.length\\b.*");
        }

        private javax.lang.model.element.ExecutableElement methodOf() {
            TreePath path = getCurrentPath();
            while (!(path.getLeaf() instanceof MethodTree)) {
                path = path.getParentPath();
            }
            return (javax.lang.model.element.ExecutableElement) trees.getElement(path);
        }
    }
}
