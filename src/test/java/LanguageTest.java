import com.sun.source.tree.*;
import com.sun.source.util.TreePath;
import java.io.IOException;
import java.nio.file.Files;
import java.nio.file.Path;
import java.util.ArrayList;
import java.util.EnumSet;
import java.util.HashMap;
import java.util.LinkedHashMap;
import java.util.LinkedHashSet;
import java.util.List;
import java.util.Map;
import java.util.Set;
import java.util.TreeSet;
import javax.lang.model.element.Element;
import javax.lang.model.element.ElementKind;
import javax.lang.model.element.Modifier;
import javax.lang.model.type.ArrayType;
import javax.lang.model.type.TypeKind;
import javax.lang.model.type.TypeMirror;

/**
 * ../shared/LANGUAGE.md, rule by rule, over the source as the compiler reads it; run from the project's
 * folder. Where the class needs less than a rule leaves (it uses no library, no try, no recursion), the
 * test asks for that less; who needs more widens it. The face (rule 1) is FaceTest's, that no call
 * throws by itself (rule 7) is held by all the tests together, the room (rule 12) is RoomTest's.
 */
public final class LanguageTest {
    private static final Due DUE = new Due("LanguageTest");
    private static final Path FILE = Path.of("src/main/java/DrawStreams.java");
    private static final Set<Tree.Kind> ON_REALS = EnumSet.of(Tree.Kind.PLUS, Tree.Kind.MINUS, Tree.Kind.MULTIPLY, Tree.Kind.DIVIDE,
        Tree.Kind.LESS_THAN, Tree.Kind.LESS_THAN_EQUAL, Tree.Kind.GREATER_THAN, Tree.Kind.GREATER_THAN_EQUAL, Tree.Kind.EQUAL_TO, Tree.Kind.NOT_EQUAL_TO);
    private static final Set<Tree.Kind> ORDERS = EnumSet.of(Tree.Kind.LESS_THAN, Tree.Kind.LESS_THAN_EQUAL, Tree.Kind.GREATER_THAN, Tree.Kind.GREATER_THAN_EQUAL);
    private static final Set<Tree.Kind> STEPS = EnumSet.of(Tree.Kind.POSTFIX_INCREMENT, Tree.Kind.PREFIX_INCREMENT, Tree.Kind.POSTFIX_DECREMENT, Tree.Kind.PREFIX_DECREMENT);
    private static final int LONGEST = 60;
    private static final int DEEPEST = 8;

    private static Source source;

    public static void main(String[] args) throws IOException {
        source = new Source(FILE);
        rule1Names();
        rule2Classes();
        rule3Types();
        rule3Reals();
        rule3And4Texts();
        rule4Library();
        rule5Statics();
        rule6Exceptions();
        rule6Objects();
        rule7Divisors();
        rule9Loops();
        rules8And11Calls();
        rule11Sizes();
        rule12Objects();
        DUE.end();
    }

    private static String where(Tree tree) {
        return " (line " + source.firstLine(tree) + ": " + tree.toString().strip().lines().findFirst().orElse("") + ")";
    }

    private static void none(String rule, Class<? extends Tree> kind) {
        List<TreePath> found = source.all(kind);
        DUE.holds(rule + (found.isEmpty() ? "" : where(found.get(0).getLeaf())), found.isEmpty());
    }

    private static boolean isOwn(Element e) {
        Element up = e;
        while (up.getEnclosingElement() != null && up.getEnclosingElement().getKind() != ElementKind.PACKAGE) {
            up = up.getEnclosingElement();
        }
        return up.getSimpleName().contentEquals("DrawStreams");
    }

    private static void rule1Names() {
        DUE.is("rule 1: classes beside the one", source.unit.getTypeDecls().size(), 1);
        DUE.holds("rule 1: no package", source.unit.getPackage() == null);
        Set<String> shown = new TreeSet<>();
        for (TreePath m : source.all(MethodTree.class)) {
            if (source.named(m).getModifiers().contains(Modifier.PUBLIC)) {
                shown.add(source.named(m).getSimpleName().toString());
            }
        }
        for (TreePath m : source.all(MethodTree.class)) {
            Element e = source.named(m);
            boolean isHidden = e.getKind() == ElementKind.METHOD && !e.getModifiers().contains(Modifier.PUBLIC);
            DUE.holds("rule 1: " + e + " bears no public name", !isHidden || !shown.contains(e.getSimpleName().toString()));
        }
    }

    private static void rule2Classes() {
        for (TreePath c : source.all(ClassTree.class)) {
            Tree parent = c.getParentPath().getLeaf();
            boolean isTop = parent instanceof CompilationUnitTree;
            DUE.holds("rule 2: neither local nor anonymous" + where(c.getLeaf()), isTop || parent instanceof ClassTree);
            DUE.holds("rule 2: static" + where(c.getLeaf()), isTop || source.named(c).getModifiers().contains(Modifier.STATIC));
        }
        none("rule 2: no lambda", LambdaExpressionTree.class);
        none("rule 2: no method reference", MemberReferenceTree.class);
    }

    private static boolean isAllowed(TypeMirror type) {
        if (type.getKind() == TypeKind.ARRAY) {
            TypeMirror one = ((ArrayType) type).getComponentType();
            return one.getKind() != TypeKind.ARRAY && isAllowed(one);
        }
        String name = type.toString();
        return type.getKind().isPrimitive() || name.equals("java.lang.String") || name.startsWith("DrawStreams");
    }

    private static void rule3Types() {
        for (TreePath v : source.all(VariableTree.class)) {
            DUE.holds("rule 3: the type of" + where(v.getLeaf()), isAllowed(source.type(v)));
        }
        for (TreePath m : source.all(MethodTree.class)) {
            Tree answer = ((MethodTree) m.getLeaf()).getReturnType();
            if (answer != null) {
                TypeMirror type = source.type(m, answer);
                DUE.holds("rule 3: the answer of" + where(m.getLeaf()), type.getKind() == TypeKind.VOID || isAllowed(type));
            }
        }
    }

    private static boolean isReal(TypeMirror type) {
        return type != null && (type.getKind() == TypeKind.DOUBLE || type.getKind() == TypeKind.FLOAT);
    }

    private static void rule3Reals() {
        for (TreePath p : source.all(BinaryTree.class)) {
            BinaryTree b = (BinaryTree) p.getLeaf();
            boolean real = isReal(source.type(p, b.getLeftOperand())) || isReal(source.type(p, b.getRightOperand()));
            DUE.holds("rule 3: what is done with reals" + where(b), !real || ON_REALS.contains(b.getKind()));
        }
        for (TreePath p : source.all(UnaryTree.class)) {
            UnaryTree u = (UnaryTree) p.getLeaf();
            boolean isNumber = u.getKind() == Tree.Kind.UNARY_MINUS && u.getExpression() instanceof LiteralTree;
            DUE.holds("rule 3: what is done with reals" + where(u), !isReal(source.type(p)) || isNumber);
        }
        for (TreePath p : source.all(CompoundAssignmentTree.class)) {
            DUE.holds("rule 3: what is done with reals" + where(p.getLeaf()), !isReal(source.type(p)));
        }
    }

    private static void rule3And4Texts() throws IOException {
        DUE.holds("rules 3, 4: signs 1 to 127 alone", Files.readString(FILE).chars().allMatch(c -> c >= 1 && c <= 127));
        for (TreePath p : source.all(LiteralTree.class)) {
            Object value = ((LiteralTree) p.getLeaf()).getValue();
            boolean plain = !(value instanceof String s) || s.chars().allMatch(c -> c >= 1 && c <= 127);
            DUE.holds("rules 3, 4: a text of signs 1 to 127" + where(p.getLeaf()), plain);
        }
        for (TreePath p : source.all(BinaryTree.class)) {
            DUE.holds("rule 10: no joining by +" + where(p.getLeaf()), !("" + source.type(p)).equals("java.lang.String"));
        }
    }

    /** Rule 13 too: no clock, no randomness, nothing of the machine can come without the library. */
    private static void rule4Library() {
        none("rule 4: no import", ImportTree.class);
        for (TreePath p : source.all(MethodInvocationTree.class)) {
            Element called = source.named(p);
            boolean isBegin = called.getKind() == ElementKind.CONSTRUCTOR;
            DUE.holds("rule 4: what is called is the class's own" + where(p.getLeaf()), isBegin || isOwn(called));
        }
        for (TreePath p : source.all(NewClassTree.class)) {
            boolean thrown = p.getParentPath().getLeaf() instanceof ThrowTree;
            DUE.holds("rule 4: what is made is the class's own" + where(p.getLeaf()), thrown || isOwn(source.named(p)));
        }
        for (TreePath p : source.all(MemberSelectTree.class)) {
            Element e = source.named(p);
            DUE.holds("rule 4: what is named is the class's own" + where(p.getLeaf()), e == null || isOwn(e) || e.getSimpleName().contentEquals("length"));
        }
    }

    private static void rule5Statics() {
        Set<String> constants = Set.of("int", "long", "boolean", "char", "java.lang.String");
        Set<String> rows = Set.of("int[]", "long[]", "char[]", "byte[]");
        for (TreePath p : source.all(VariableTree.class)) {
            if (p.getParentPath().getLeaf() instanceof ClassTree && source.named(p).getModifiers().contains(Modifier.STATIC)) {
                VariableTree v = (VariableTree) p.getLeaf();
                String type = source.type(p).toString();
                boolean isRow = rows.contains(type) && v.getInitializer() instanceof NewArrayTree made && made.getInitializers() != null;
                DUE.holds("rule 5: final" + where(v), source.named(p).getModifiers().contains(Modifier.FINAL));
                DUE.holds("rule 5: a constant's type" + where(v), constants.contains(type) || isRow);
            }
        }
        for (TreePath p : source.all(BlockTree.class)) {
            DUE.holds("rule 5: no initialiser block" + where(p.getLeaf()), !(p.getParentPath().getLeaf() instanceof ClassTree));
        }
    }

    /** The only ones are those of the document, each in its own call. */
    private static void rule6Exceptions() {
        Map<String, String> due = Map.of("below", "java.lang.ArithmeticException", "at", "java.lang.ArrayIndexOutOfBoundsException");
        List<TreePath> thrown = source.all(ThrowTree.class);
        for (TreePath p : thrown) {
            ExpressionTree what = ((ThrowTree) p.getLeaf()).getExpression();
            MethodTree in = Source.around(p, MethodTree.class);
            boolean written = what instanceof NewClassTree made && (made.getArguments().isEmpty()
                || made.getArguments().size() == 1 && made.getArguments().get(0).getKind() == Tree.Kind.STRING_LITERAL);
            DUE.holds("rule 6: throw new E() or with a written text" + where(p.getLeaf()), written);
            DUE.isText("rule 6: what " + in.getName() + " throws", "" + source.type(p, what), "" + due.get(in.getName().toString()));
        }
        DUE.is("rule 6: throws in all", thrown.size(), due.size());
        none("rule 6: no try", TryTree.class);
    }

    private static void rule6Objects() {
        none("rule 6: no synchronized", SynchronizedTree.class);
        none("rule 6: no assert", AssertTree.class);
        none("rule 6: no instanceof", InstanceOfTree.class);
        for (TreePath m : source.all(MethodTree.class)) {
            DUE.holds("rule 6: not synchronized" + where(m.getLeaf()), !source.named(m).getModifiers().contains(Modifier.SYNCHRONIZED));
            DUE.holds("rule 6: no equals, hashCode, toString", !Set.of("equals", "hashCode", "toString").contains(((MethodTree) m.getLeaf()).getName().toString()));
        }
        for (TreePath p : source.all(TypeCastTree.class)) {
            DUE.holds("rule 6: casts of numbers alone" + where(p.getLeaf()), source.type(p).getKind().isPrimitive());
        }
    }

    /** A divisor is a number other than 0, or the method compares it ahead of the division. */
    private static void rule7Divisors() {
        for (TreePath p : source.all(BinaryTree.class)) {
            BinaryTree b = (BinaryTree) p.getLeaf();
            boolean divides = b.getKind() == Tree.Kind.DIVIDE || b.getKind() == Tree.Kind.REMAINDER;
            if (divides && !isReal(source.type(p))) {
                ExpressionTree by = b.getRightOperand();
                boolean isNumber = by instanceof LiteralTree number && ((Number) number.getValue()).longValue() != 0;
                DUE.holds("rule 7: the divisor is looked at" + where(b), isNumber || by instanceof IdentifierTree && isCompared(p, by.toString()));
            }
        }
    }

    private static boolean isCompared(TreePath use, String name) {
        MethodTree in = Source.around(use, MethodTree.class);
        for (TreePath p : source.within(in, IfTree.class)) {
            if (source.firstLine(p.getLeaf()) < source.firstLine(use.getLeaf())) {
                for (TreePath c : source.within(((IfTree) p.getLeaf()).getCondition(), BinaryTree.class)) {
                    if (ORDERS.contains(c.getLeaf().getKind()) && mentions(c.getLeaf(), name)) {
                        return true;
                    }
                }
            }
        }
        return false;
    }

    private static boolean mentions(Tree tree, String name) {
        for (TreePath p : source.within(tree, IdentifierTree.class)) {
            if (((IdentifierTree) p.getLeaf()).getName().contentEquals(name)) {
                return true;
            }
        }
        return false;
    }

    /** Each loop holds a counter against a bound, moves it by one steadily, and does not set it otherwise. */
    private static void rule9Loops() {
        none("rule 9: no do", DoWhileLoopTree.class);
        for (TreePath p : source.all(ForLoopTree.class)) {
            ForLoopTree loop = (ForLoopTree) p.getLeaf();
            DUE.holds("rule 9: an end" + where(loop), loop.getCondition() != null && hasCounter(loop, loop.getCondition()));
        }
        for (TreePath p : source.all(WhileLoopTree.class)) {
            WhileLoopTree loop = (WhileLoopTree) p.getLeaf();
            DUE.holds("rule 9: an end" + where(loop), hasCounter(loop, loop.getCondition()));
        }
    }

    private static boolean hasCounter(Tree loop, ExpressionTree condition) {
        if (condition instanceof ParenthesizedTree inner) {
            return hasCounter(loop, inner.getExpression());
        }
        if (condition.getKind() == Tree.Kind.CONDITIONAL_AND) {
            BinaryTree both = (BinaryTree) condition;
            return hasCounter(loop, both.getLeftOperand()) || hasCounter(loop, both.getRightOperand());
        }
        return ORDERS.contains(condition.getKind()) && ((BinaryTree) condition).getLeftOperand() instanceof IdentifierTree counter
            && isCounted(loop, counter.getName().toString(), condition.getKind());
    }

    private static boolean isCounted(Tree loop, String counter, Tree.Kind order) {
        boolean up = order == Tree.Kind.LESS_THAN || order == Tree.Kind.LESS_THAN_EQUAL;
        int steps = 0;
        for (TreePath p : source.within(loop, UnaryTree.class)) {
            UnaryTree step = (UnaryTree) p.getLeaf();
            if (STEPS.contains(step.getKind()) && step.getExpression().toString().equals(counter)) {
                boolean isUp = step.getKind() == Tree.Kind.POSTFIX_INCREMENT || step.getKind() == Tree.Kind.PREFIX_INCREMENT;
                steps = isUp == up ? steps + 1 : Integer.MIN_VALUE;
            }
        }
        for (TreePath p : source.within(loop, AssignmentTree.class)) {
            steps = ((AssignmentTree) p.getLeaf()).getVariable().toString().equals(counter) ? Integer.MIN_VALUE : steps;
        }
        for (TreePath p : source.within(loop, CompoundAssignmentTree.class)) {
            steps = ((CompoundAssignmentTree) p.getLeaf()).getVariable().toString().equals(counter) ? Integer.MIN_VALUE : steps;
        }
        return steps > 0;
    }

    /** What each method calls, constructors being methods too. */
    private static Map<Element, Set<Element>> calls() {
        Map<Element, Set<Element>> calls = new LinkedHashMap<>();
        for (TreePath m : source.all(MethodTree.class)) {
            Set<Element> called = calls.computeIfAbsent(source.named(m), e -> new LinkedHashSet<>());
            List<TreePath> uses = new ArrayList<>(source.within(m.getLeaf(), MethodInvocationTree.class));
            uses.addAll(source.within(m.getLeaf(), NewClassTree.class));
            for (TreePath use : uses) {
                if (isOwn(source.named(use))) {
                    called.add(source.named(use));
                }
            }
        }
        return calls;
    }

    private static void rules8And11Calls() {
        Map<Element, Set<Element>> calls = calls();
        Map<Element, Integer> known = new HashMap<>();
        for (Element m : calls.keySet()) {
            int deep = depth(m, calls, known, 0);
            DUE.holds("rules 8, 11: " + m + " goes " + deep + " deep, " + DEEPEST + " at most", deep <= DEEPEST);
        }
    }

    /** How many calls stand open at once, from this one on; more than any bound where it calls itself. */
    private static int depth(Element m, Map<Element, Set<Element>> calls, Map<Element, Integer> known, int above) {
        if (above > calls.size()) {
            return 1000000;
        }
        if (!known.containsKey(m)) {
            int deepest = 0;
            for (Element called : calls.getOrDefault(m, Set.of())) {
                deepest = Math.max(deepest, depth(called, calls, known, above + 1));
            }
            known.put(m, deepest + 1);
        }
        return known.get(m);
    }

    private static void rule11Sizes() {
        for (TreePath p : source.all(MethodTree.class)) {
            MethodTree m = (MethodTree) p.getLeaf();
            DUE.holds("rule 11: seven parameters at most" + where(m), m.getParameters().size() <= 7);
            DUE.holds("rule 11: short" + where(m), !source.isWritten(m) || source.lastLine(m) - source.firstLine(m) < LONGEST);
        }
        DUE.holds("rule 11: twelve classes at most", source.all(ClassTree.class).size() <= 12);
        for (TreePath p : source.all(ClassTree.class)) {
            int fields = 0;
            for (Tree member : ((ClassTree) p.getLeaf()).getMembers()) {
                boolean isField = member instanceof VariableTree v && !v.getModifiers().getFlags().contains(Modifier.STATIC);
                fields += isField ? 1 : 0;
            }
            DUE.holds("rule 11: " + fields + " fields, twenty at most" + where(p.getLeaf()), fields <= 20);
        }
    }

    private static void rule12Objects() {
        List<TreePath> made = new ArrayList<>(source.all(NewClassTree.class));
        made.addAll(source.all(NewArrayTree.class));
        for (TreePath p : made) {
            boolean inLoop = Source.around(p, ForLoopTree.class) != null || Source.around(p, WhileLoopTree.class) != null || Source.around(p, EnhancedForLoopTree.class) != null;
            DUE.holds("rule 12: made outside of loops" + where(p.getLeaf()), !inLoop);
        }
        for (TreePath p : source.all(MethodTree.class)) {
            if (source.named(p).getKind() == ElementKind.CONSTRUCTOR) {
                constructorKeepsToItself(p);
            }
        }
    }

    private static void constructorKeepsToItself(TreePath constructor) {
        for (TreePath c : source.within(constructor.getLeaf(), MethodInvocationTree.class)) {
            DUE.holds("rule 12: a constructor calls no method" + where(c.getLeaf()), source.named(c).getKind() == ElementKind.CONSTRUCTOR);
        }
        for (TreePath c : source.within(constructor.getLeaf(), IdentifierTree.class)) {
            boolean isSelf = ((IdentifierTree) c.getLeaf()).getName().contentEquals("this");
            DUE.holds("rule 12: a constructor keeps its object to itself" + where(c.getLeaf()), !isSelf || c.getParentPath().getLeaf() instanceof MemberSelectTree);
        }
    }
}
