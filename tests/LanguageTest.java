import com.sun.source.tree.*;
import com.sun.source.util.JavacTask;
import com.sun.source.util.TreePath;
import com.sun.source.util.TreePathScanner;
import com.sun.source.util.Trees;
import java.io.IOException;
import java.nio.file.Files;
import java.nio.file.Path;
import java.util.ArrayList;
import java.util.HashMap;
import java.util.HashSet;
import java.util.LinkedHashMap;
import java.util.List;
import java.util.Map;
import java.util.Set;
import java.util.regex.Matcher;
import java.util.regex.Pattern;
import javax.lang.model.element.Element;
import javax.lang.model.element.ElementKind;
import javax.lang.model.element.ExecutableElement;
import javax.lang.model.element.Modifier;
import javax.lang.model.element.TypeElement;
import javax.lang.model.element.VariableElement;
import javax.lang.model.type.ArrayType;
import javax.lang.model.type.TypeKind;
import javax.lang.model.type.TypeMirror;
import javax.tools.JavaCompiler;
import javax.tools.StandardJavaFileManager;
import javax.tools.ToolProvider;

/** What of LANGUAGE.md can be told from the program as the compiler reads it; run from the project's folder. */
public final class LanguageTest {
    private static final Path SOURCE = Path.of("src/main/java/FoxRounds.java");
    private static final Path DOCUMENT = Path.of("../shared/DOC.md");
    private static final int DEEPEST = 8;
    private static final int MOST_CLASSES = 12;
    private static final int MOST_FIELDS = 20;
    private static final int MOST_LINES = 60;
    private static final int MOST_PARAMETERS = 7;

    /** What is used of the library is less than the rules let in: a new name here is to be looked up in rule 4. */
    private static final Set<String> LIBRARY = Set.of("java.lang.Math.max", "java.lang.Math.min", "java.lang.Math.abs",
            "java.lang.System.arraycopy", "java.lang.String.indexOf", "java.lang.Object.<init>");
    private static final Set<Tree.Kind> RULED_OUT = Set.of(Tree.Kind.THROW, Tree.Kind.TRY, Tree.Kind.CATCH,
            Tree.Kind.SYNCHRONIZED, Tree.Kind.ASSERT, Tree.Kind.LAMBDA_EXPRESSION, Tree.Kind.MEMBER_REFERENCE,
            Tree.Kind.IMPORT, Tree.Kind.PACKAGE);
    private static final Set<Tree.Kind> DIVIDES = Set.of(Tree.Kind.DIVIDE, Tree.Kind.REMAINDER,
            Tree.Kind.DIVIDE_ASSIGNMENT, Tree.Kind.REMAINDER_ASSIGNMENT);
    private static final Set<TypeKind> NUMBERS = Set.of(TypeKind.INT, TypeKind.LONG, TypeKind.SHORT, TypeKind.BYTE,
            TypeKind.CHAR);

    private static int wrong = 0;

    private final CompilationUnitTree unit;
    private final Trees trees;
    private final Map<ExecutableElement, Set<ExecutableElement>> calls = new LinkedHashMap<>();
    private final Set<TypeElement> classes = new HashSet<>();
    private final Map<TypeElement, Integer> fields = new HashMap<>();
    private final Set<String> face = new HashSet<>();
    private final List<String> hidden = new ArrayList<>();

    private LanguageTest(CompilationUnitTree unit, Trees trees) {
        this.unit = unit;
        this.trees = trees;
    }

    private static void fault(String what) {
        wrong++;
        System.out.println(what);
    }

    private void faultAt(Tree tree, String what) {
        long place = trees.getSourcePositions().getStartPosition(unit, tree);
        fault("line " + unit.getLineMap().getLineNumber(place) + ": " + what);
    }

    private int lines(Tree tree) {
        LineMap map = unit.getLineMap();
        long from = trees.getSourcePositions().getStartPosition(unit, tree);
        long to = trees.getSourcePositions().getEndPosition(unit, tree);
        return (int) (map.getLineNumber(to) - map.getLineNumber(from) + 1);
    }

    private boolean isOwn(Element e) {
        return e instanceof TypeElement && classes.contains(e);
    }

    /** Rule 3: numbers, own classes, String; arrays of these; of two dimensions of numbers alone. */
    private boolean isLetIn(TypeMirror type) {
        if (type.getKind() == TypeKind.ARRAY) {
            TypeMirror part = ((ArrayType) type).getComponentType();
            if (part.getKind() == TypeKind.ARRAY) {
                return NUMBERS.contains(((ArrayType) part).getComponentType().getKind());
            }
            return isLetIn(part);
        }
        return NUMBERS.contains(type.getKind()) || type.getKind() == TypeKind.BOOLEAN
                || type.getKind() == TypeKind.VOID || type.toString().equals("java.lang.String")
                || classes.stream().anyMatch(c -> c.asType().toString().equals(type.toString()));
    }

    // ---- what is gathered first

    private void gatherClasses() {
        new TreePathScanner<Void, Void>() {
            @Override
            public Void visitClass(ClassTree tree, Void v) {
                classes.add((TypeElement) trees.getElement(getCurrentPath()));
                return super.visitClass(tree, v);
            }
        }.scan(new TreePath(unit), null);
    }

    private final class Look extends TreePathScanner<Void, Void> {
        private ExecutableElement within = null;
        private int loops = 0;

        @Override
        public Void scan(Tree tree, Void v) {
            if (tree != null && RULED_OUT.contains(tree.getKind())) {
                faultAt(tree, "ruled out: " + tree.getKind());
            }
            boolean loop = tree instanceof ForLoopTree || tree instanceof WhileLoopTree
                    || tree instanceof DoWhileLoopTree;
            loops += loop ? 1 : 0;
            super.scan(tree, v);
            loops -= loop ? 1 : 0;
            return null;
        }

        @Override
        public Void visitClass(ClassTree tree, Void v) {
            TypeElement e = (TypeElement) trees.getElement(getCurrentPath());
            boolean outer = e.getNestingKind() == javax.lang.model.element.NestingKind.TOP_LEVEL;
            Set<Modifier> m = e.getModifiers();
            if (outer && !(m.contains(Modifier.PUBLIC) && m.contains(Modifier.FINAL))) {
                fault("rule 1: the class isn't public and final");
            }
            boolean nested = e.getNestingKind() == javax.lang.model.element.NestingKind.MEMBER
                    && m.contains(Modifier.STATIC) && !m.contains(Modifier.PUBLIC) && !m.contains(Modifier.PROTECTED);
            if (!outer && !nested) {
                faultAt(tree, "rule 2: a class inside that isn't static, or is local, or seen from without");
            }
            for (Tree member : tree.getMembers()) {
                if (member instanceof BlockTree) {
                    faultAt(member, "rule 5: a block of initialising");
                }
            }
            return super.visitClass(tree, v);
        }

        @Override
        public Void visitMethod(MethodTree tree, Void v) {
            within = (ExecutableElement) trees.getElement(getCurrentPath());
            calls.put(within, new HashSet<>());
            member(tree, within);
            if (tree.getParameters().size() > MOST_PARAMETERS) {
                faultAt(tree, "rule 11: " + tree.getParameters().size() + " parameters");
            }
            if (lines(tree) > MOST_LINES) {
                faultAt(tree, "rule 11: " + lines(tree) + " lines");
            }
            if (!isLetIn(within.getReturnType())) {
                faultAt(tree, "rule 3: answers " + within.getReturnType());
            }
            String name = tree.getName().toString();
            if (Set.of("equals", "hashCode", "toString").contains(name)) {
                faultAt(tree, "rule 6: " + name);
            }
            super.visitMethod(tree, v);
            within = null;
            return null;
        }

        private void member(Tree tree, Element e) {
            boolean outer = e.getEnclosingElement().toString().equals("FoxRounds");
            boolean isPublic = e.getModifiers().contains(Modifier.PUBLIC);
            if (outer && isPublic) {
                face.add(e.getSimpleName().toString());
            } else if (e instanceof ExecutableElement) {
                hidden.add(e.getSimpleName().toString());
            }
            if (outer && !isPublic && !e.getModifiers().contains(Modifier.PRIVATE)) {
                faultAt(tree, "rule 1: neither public nor private");
            }
            if (outer && isPublic && !(e instanceof ExecutableElement)) {
                faultAt(tree, "rule 1: the document has no constants");
            }
        }

        @Override
        public Void visitVariable(VariableTree tree, Void v) {
            VariableElement e = (VariableElement) trees.getElement(getCurrentPath());
            if (!isLetIn(e.asType())) {
                faultAt(tree, "rule 3: " + e.asType());
            }
            if (e.getKind() == ElementKind.FIELD) {
                field(tree, e);
            }
            return super.visitVariable(tree, v);
        }

        private void field(VariableTree tree, VariableElement e) {
            member(tree, e);
            if (!e.getModifiers().contains(Modifier.STATIC)) {
                fields.merge((TypeElement) e.getEnclosingElement(), 1, Integer::sum);
                return;
            }
            ExpressionTree made = tree.getInitializer();
            boolean row = e.asType().getKind() == TypeKind.ARRAY && made instanceof NewArrayTree
                    && ((NewArrayTree) made).getInitializers() != null;
            if (!e.getModifiers().contains(Modifier.FINAL) || e.getConstantValue() == null && !row) {
                faultAt(tree, "rule 5: a static field that is no constant");
            }
        }

        @Override
        public Void visitAssignment(AssignmentTree tree, Void v) {
            changes(tree.getVariable());
            return super.visitAssignment(tree, v);
        }

        @Override
        public Void visitCompoundAssignment(CompoundAssignmentTree tree, Void v) {
            changes(tree.getVariable());
            if (DIVIDES.contains(tree.getKind())) {
                divisor(tree, tree.getExpression());
            }
            return super.visitCompoundAssignment(tree, v);
        }

        @Override
        public Void visitUnary(UnaryTree tree, Void v) {
            if (tree.getKind().name().contains("CREMENT")) {
                changes(tree.getExpression());
            }
            return super.visitUnary(tree, v);
        }

        private void changes(ExpressionTree to) {
            ExpressionTree row = to;
            while (row instanceof ArrayAccessTree) {
                row = ((ArrayAccessTree) row).getExpression();
            }
            Element e = trees.getElement(new TreePath(getCurrentPath(), row));
            if (e != null && e.getKind() == ElementKind.FIELD && e.getModifiers().contains(Modifier.STATIC)) {
                faultAt(to, "rule 5: a static field is changed");
            }
        }

        @Override
        public Void visitBinary(BinaryTree tree, Void v) {
            if (DIVIDES.contains(tree.getKind())) {
                divisor(tree, tree.getRightOperand());
            }
            boolean ofTexts = false;
            for (ExpressionTree part : List.of(tree.getLeftOperand(), tree.getRightOperand())) {
                TypeMirror type = trees.getTypeMirror(new TreePath(getCurrentPath(), part));
                ofTexts |= type != null && type.toString().equals("java.lang.String");
            }
            if (ofTexts) {
                faultAt(tree, "rules 6 and 10: texts aren't joined or compared by " + tree.getKind());
            }
            return super.visitBinary(tree, v);
        }

        /** Rule 7: a number other than 0, or a name that is looked at ahead of the division. */
        private void divisor(Tree tree, ExpressionTree by) {
            Element e = trees.getElement(new TreePath(getCurrentPath(), by));
            if (by instanceof LiteralTree && !by.toString().equals("0")) {
                return;
            }
            Object constant = e instanceof VariableElement ? ((VariableElement) e).getConstantValue() : null;
            if (constant instanceof Integer && (Integer) constant != 0) {
                return;
            }
            String name = by.toString();
            boolean held = count("\\bint " + name + " = Math\\.max\\(1, ") == 1
                    && count("[\\s(]" + name + " (\\S)?= |\\b" + name + "(\\+\\+|--)") == 1;
            if (!(by instanceof IdentifierTree) || !held && !isLookedAt(name)) {
                faultAt(tree, "rule 7: a divisor that isn't looked at: " + by);
            }
        }

        /** How often something stands in the function that is read. */
        private int count(String what) {
            return (int) Pattern.compile(what).matcher(trees.getTree(within).toString()).results().count();
        }

        /** Whether what stands around the place asks first that a name isn't 0. */
        private boolean isLookedAt(String name) {
            Tree inner = getCurrentPath().getLeaf();
            for (Tree around : getCurrentPath().getParentPath()) {
                String asks = "";
                if (around instanceof ConditionalExpressionTree) {
                    ConditionalExpressionTree c = (ConditionalExpressionTree) around;
                    asks = c.getCondition().toString();
                    if (c.getFalseExpression() == inner && asks.equals(name + " == 0")) {
                        return true;
                    }
                    asks = c.getTrueExpression() == inner ? asks : "";
                } else if (around instanceof ForLoopTree) {
                    asks = ((ForLoopTree) around).getCondition().toString();
                } else if (around instanceof IfTree && ((IfTree) around).getThenStatement() == inner) {
                    asks = ((IfTree) around).getCondition().toString();
                }
                if (!asks.contains("||") && Pattern.compile("\\b" + name + " != 0\\b").matcher(asks).find()) {
                    return true;
                }
                inner = around;
            }
            return false;
        }

        @Override
        public Void visitNewClass(NewClassTree tree, Void v) {
            making(tree);
            call((ExecutableElement) trees.getElement(getCurrentPath()), tree);
            return super.visitNewClass(tree, v);
        }

        @Override
        public Void visitNewArray(NewArrayTree tree, Void v) {
            making(tree);
            for (ExpressionTree length : tree.getDimensions()) {
                Element e = trees.getElement(new TreePath(getCurrentPath(), length));
                boolean known = length.toString().matches("[A-Z_]+( \\+ 1)?|\\d+");
                if (!known && !(e instanceof VariableElement && ((VariableElement) e).getConstantValue() != null)) {
                    faultAt(tree, "rule 7: a length that is no constant: " + length);
                }
            }
            return super.visitNewArray(tree, v);
        }

        /** Stricter than rule 12: the project makes all its rows as an object is made. */
        private void making(Tree tree) {
            if (within != null && within.getKind() != ElementKind.CONSTRUCTOR) {
                faultAt(tree, "rule 12: " + within + " makes an object");
            }
            if (loops > 0 && !within.toString().equals("FoxRounds()")) {
                faultAt(tree, "rule 12: made in a loop");
            }
        }

        @Override
        public Void visitMethodInvocation(MethodInvocationTree tree, Void v) {
            call((ExecutableElement) trees.getElement(getCurrentPath()), tree);
            return super.visitMethodInvocation(tree, v);
        }

        private void call(ExecutableElement called, Tree tree) {
            Element home = called.getEnclosingElement();
            if (!isOwn(home) && !LIBRARY.contains(home + "." + called.getSimpleName())) {
                faultAt(tree, "rule 4: " + home + "." + called);
            }
            if (within != null) {
                calls.get(within).add(called);
            }
        }

        @Override
        public Void visitTypeCast(TypeCastTree tree, Void v) {
            TypeMirror to = trees.getTypeMirror(new TreePath(getCurrentPath(), tree.getType()));
            if (!NUMBERS.contains(to.getKind())) {
                faultAt(tree, "rule 6: a cast to " + to);
            }
            return super.visitTypeCast(tree, v);
        }

        @Override
        public Void visitForLoop(ForLoopTree tree, Void v) {
            if (tree.getCondition() == null || tree.getUpdate().isEmpty()) {
                faultAt(tree, "rule 9: a loop without an end or a step");
            }
            return super.visitForLoop(tree, v);
        }

        /** Rule 9: what the loop asks for is stepped by one in its own lines. */
        @Override
        public Void visitWhileLoop(WhileLoopTree tree, Void v) {
            Matcher names = Pattern.compile("\\b[a-z]\\w*\\b").matcher(tree.getCondition().toString());
            boolean steps = false;
            while (names.find()) {
                steps |= Pattern.compile("\\b" + names.group() + "(\\+\\+|--);").matcher(tree.getStatement().toString())
                        .find();
            }
            if (!steps) {
                faultAt(tree, "rule 9: a loop that steps nothing that it asks for");
            }
            return super.visitWhileLoop(tree, v);
        }
    }

    // ---- what is told of all

    private void numbersOfAll() {
        if (classes.size() > MOST_CLASSES) {
            fault("rule 11: " + classes.size() + " classes");
        }
        fields.forEach((c, n) -> {
            if (n > MOST_FIELDS) {
                fault("rule 11: " + n + " fields in " + c);
            }
        });
        for (String name : hidden) {
            if (face.contains(name) && !name.equals("<init>")) {
                fault("rule 1: a hidden method bears a public one's name: " + name);
            }
        }
    }

    private boolean reaches(ExecutableElement from, ExecutableElement to, Set<ExecutableElement> seen) {
        for (ExecutableElement next : calls.getOrDefault(from, Set.of())) {
            if (next.equals(to) || seen.add(next) && reaches(next, to, seen)) {
                return true;
            }
        }
        return false;
    }

    /** Rule 8: who can come back to itself is private, carries how deep it is, and looks at it first. */
    private void recursion() {
        for (ExecutableElement e : calls.keySet()) {
            if (!reaches(e, e, new HashSet<>())) {
                continue;
            }
            List<? extends VariableElement> parameters = e.getParameters();
            boolean carries = !parameters.isEmpty()
                    && parameters.get(parameters.size() - 1).getSimpleName().contentEquals("depth");
            MethodTree tree = trees.getTree(e);
            String first = tree.getBody().getStatements().get(0).toString();
            if (!carries || !e.getModifiers().contains(Modifier.PRIVATE) || !first.startsWith("if (depth > DEEPEST)")) {
                faultAt(tree, "rule 8: a recursion without a guard: " + e);
            }
        }
    }

    /** The longest chain of calls from a method on, itself and the library's counted, no step of a recursion twice. */
    private List<String> longest(ExecutableElement from, Map<ExecutableElement, List<String>> known) {
        if (known.containsKey(from)) {
            return known.get(from);
        }
        List<String> best = List.of();
        for (ExecutableElement next : calls.getOrDefault(from, Set.of())) {
            boolean back = next.equals(from) || reaches(next, from, new HashSet<>());
            List<String> chain = back ? List.of() : longest(next, known);
            best = chain.size() > best.size() ? chain : best;
        }
        List<String> mine = new ArrayList<>(List.of(from.getSimpleName().toString()));
        mine.addAll(best);
        known.put(from, mine);
        return mine;
    }

    private void depth() {
        Map<ExecutableElement, List<String>> known = new HashMap<>();
        for (ExecutableElement e : calls.keySet()) {
            List<String> chain = longest(e, known);
            if (chain.size() > DEEPEST) {
                fault("rule 11: " + chain.size() + " deep: " + chain);
            }
        }
    }

    /** The names, arguments and results of all calls, in their order, as the document has them. */
    private static void sameFace() throws IOException {
        String document = Files.readString(DOCUMENT);
        int from = document.indexOf("public final class FoxRounds {");
        List<String> due = heads(document.substring(from, document.indexOf("```", from)), ";");
        List<String> has = heads(Files.readString(SOURCE), " \\{");
        if (!due.equals(has) || due.size() != 44) {
            fault("rule 1: the face is " + has + ", due is " + due);
        }
    }

    private static void signs(String text) {
        for (int i = 0; i < text.length(); i++) {
            if (text.charAt(i) > 127) {
                fault("rule 4: a sign above 127: " + text.charAt(i));
            }
        }
    }

    /** What the document has ahead of the calls, ahead of the first of them. */
    private static void sections(String text) throws IOException {
        String document = Files.readString(DOCUMENT);
        Matcher m = Pattern.compile("Ahead of the calls `(\\w+)`[^\\n]* the interface says: (---- [^\\n]*)\\.\\n").matcher(document);
        int found = 0;
        while (m.find()) {
            found++;
            if (!Pattern.compile("    // " + m.group(2) + "\n\n    public \\w+ " + m.group(1) + "\\(").matcher(text).find()) {
                fault("not ahead of " + m.group(1) + ": " + m.group(2));
            }
        }
        if (found != 5) {
            fault("the document has " + found + " heads of calls");
        }
    }

    private static List<String> heads(String text, String end) {
        Matcher m = Pattern.compile("^    public ([^\\n;={]*\\))" + end + "$", Pattern.MULTILINE).matcher(text);
        List<String> heads = new ArrayList<>();
        while (m.find()) {
            heads.add(m.group(1));
        }
        return heads;
    }

    public static void main(String[] args) throws IOException {
        String text = Files.readString(SOURCE);
        signs(text);
        sections(text);
        sameFace();
        JavaCompiler compiler = ToolProvider.getSystemJavaCompiler();
        try (StandardJavaFileManager files = compiler.getStandardFileManager(null, null, null)) {
            JavacTask task = (JavacTask) compiler.getTask(null, files, null, List.of("-proc:none"), null,
                    files.getJavaFileObjects(SOURCE));
            CompilationUnitTree unit = task.parse().iterator().next();
            task.analyze();
            LanguageTest test = new LanguageTest(unit, Trees.instance(task));
            test.gatherClasses();
            test.new Look().scan(new TreePath(unit), null);
            test.numbersOfAll();
            test.recursion();
            test.depth();
        }
        if (wrong > 0) {
            System.exit(1);
        }
    }
}
