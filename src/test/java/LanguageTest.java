import com.sun.source.tree.*;
import com.sun.source.util.TreePath;
import java.nio.file.Files;
import java.nio.file.Path;
import java.util.ArrayList;
import java.util.EnumSet;
import java.util.HashSet;
import java.util.List;
import java.util.Set;
import java.util.TreeSet;
import javax.lang.model.element.Element;
import javax.lang.model.element.ElementKind;
import javax.lang.model.element.ExecutableElement;
import javax.lang.model.element.Modifier;
import javax.lang.model.element.TypeElement;
import javax.lang.model.element.VariableElement;
import javax.lang.model.type.ArrayType;
import javax.lang.model.type.DeclaredType;
import javax.lang.model.type.TypeKind;
import javax.lang.model.type.TypeMirror;

/**
 * Goes through the rules of LANGUAGE.md, one by one, on the compiler's tree of the source.
 *
 * Not looked at: that no index is out of bounds (rule 7; the other tests would see another exception
 * than the one due), and how much a run makes (rule 12), where no method but a constructor makes
 * anything but exceptions. The class does not need all that the rules allow: where it comes to use
 * something that is only fine under conditions (try, a cast, a list), this test fails and says so,
 * and is to be widened together with the class.
 */
public final class LanguageTest extends Checks {
    private static final Path DOCUMENT = Path.of("../shared/DOC.md");
    private static final Set<String> NUMBERS = Set.of("int", "long", "short", "byte", "char", "double", "float");
    private static final Set<String> EXCEPTIONS = Set.of("IllegalStateException", "IllegalArgumentException",
            "IndexOutOfBoundsException", "ArithmeticException", "UnsupportedOperationException",
            "NoSuchElementException", "RuntimeException");

    private static Source source;

    private static void no(Class<? extends Tree> kind, String why) {
        for (TreePath piece : source.all(kind)) {
            fault(why + ", " + source.at(piece));
        }
    }

    private static boolean isStatic(Element e) {
        return e.getModifiers().contains(Modifier.STATIC);
    }

    private static boolean isConstructor(TreePath method) {
        return ((MethodTree) method.getLeaf()).getReturnType() == null;
    }

    private static boolean isOwnClass(TypeMirror type) {
        return type.getKind() == TypeKind.DECLARED && ((DeclaredType) type).asElement().toString()
                .matches("DefaultReasoner(\\..*)?");
    }

    private static List<VariableElement> fields() {
        List<VariableElement> found = new ArrayList<>();
        for (TreePath variable : source.all(VariableTree.class)) {
            if (source.element(variable).getKind() == ElementKind.FIELD) {
                found.add((VariableElement) source.element(variable));
            }
        }
        return found;
    }

    // ---- rule 1: the face

    private static void face() throws Exception {
        is("types beside one another", source.unit().getTypeDecls().size(), 1);
        is("a package", source.unit().getPackageName() == null, true);
        TypeElement type = (TypeElement) source.element(source.all(ClassTree.class).get(0));
        is("its modifiers", type.getModifiers(), Set.of(Modifier.PUBLIC, Modifier.FINAL));
        List<String> open = new ArrayList<>();
        Set<String> openNames = new TreeSet<>();
        for (Element member : type.getEnclosedElements()) {
            if (member.getKind().isClass() || member.getKind().isInterface()) {
                is(member + " is public or protected", member.getModifiers().contains(Modifier.PUBLIC)
                        || member.getModifiers().contains(Modifier.PROTECTED), false);
            } else if (!member.getModifiers().contains(Modifier.PRIVATE)) {
                open.add(signature(member));
                openNames.add(member.getSimpleName().toString());
            }
        }
        for (TreePath method : source.all(MethodTree.class)) {
            boolean own = source.element(method).getModifiers().contains(Modifier.PRIVATE);
            boolean sameName = openNames.contains(source.methodName(method));
            is(source.methodName(method) + " bears a public one's name", own && sameName && !isConstructor(method), false);
        }
        if (Files.exists(DOCUMENT)) {
            is("the face", String.join("\n", open), String.join("\n", documentedFace()));
        } else {
            System.out.println("no " + DOCUMENT + " here: the face is not held against it");
        }
    }

    private static String signature(Element member) {
        if (!(member instanceof ExecutableElement method)) {
            return member.toString();
        }
        List<String> parameters = new ArrayList<>();
        method.getParameters().forEach(p -> parameters.add(p.asType() + " " + p.getSimpleName()));
        List<String> thrown = new ArrayList<>();
        method.getThrownTypes().forEach(t -> thrown.add(simple(t)));
        String name = method.getKind() == ElementKind.CONSTRUCTOR ? "DefaultReasoner"
                : method.getReturnType() + " " + method.getSimpleName();
        List<String> modifiers = new ArrayList<>();
        method.getModifiers().forEach(m -> modifiers.add(m.toString()));
        return String.join(" ", modifiers) + " " + name + "(" + String.join(", ", parameters) + ")"
                + (thrown.isEmpty() ? "" : " throws " + String.join(", ", thrown)) + ";";
    }

    private static String simple(TypeMirror type) {
        return type.toString().replaceAll(".*\\.", "");
    }

    private static List<String> documentedFace() throws Exception {
        String text = Files.readString(DOCUMENT);
        String block = text.substring(text.indexOf("```java"), text.indexOf("\n}\n```"));
        List<String> lines = new ArrayList<>();
        block.lines().skip(2).forEach(line -> lines.add(line.strip()));
        return lines;
    }

    // ---- rule 2: classes inside

    private static void classesInside() {
        no(LambdaExpressionTree.class, "a lambda");
        no(MemberReferenceTree.class, "a method reference");
        for (TreePath inner : source.all(ClassTree.class)) {
            boolean member = inner.getParentPath().getLeaf() instanceof ClassTree;
            boolean outermost = inner.getParentPath().getLeaf() instanceof CompilationUnitTree;
            boolean nested = member && isStatic(source.element(inner));
            is("a class that is not static, or stands inside a method, " + source.at(inner), nested || outermost, true);
        }
    }

    // ---- rule 3: types

    private static boolean isAllowed(TypeMirror type) {
        if (type.getKind() == TypeKind.ARRAY) {
            TypeMirror of = ((ArrayType) type).getComponentType();
            boolean two = of.getKind() == TypeKind.ARRAY
                    && NUMBERS.contains(((ArrayType) of).getComponentType().toString());
            return of.getKind().isPrimitive() || isOwnClass(of) || two;
        }
        return type.getKind().isPrimitive() || type.getKind() == TypeKind.VOID || isOwnClass(type)
                || type.toString().equals("java.lang.String") || type.toString().equals("java.lang.StringBuilder");
    }

    private static boolean isReal(TypeMirror type) {
        return type.getKind() == TypeKind.DOUBLE || type.getKind() == TypeKind.FLOAT;
    }

    private static void types() {
        for (TreePath variable : source.all(VariableTree.class)) {
            is("the type of " + source.at(variable), isAllowed(source.element(variable).asType()), true);
        }
        for (TreePath method : source.all(MethodTree.class)) {
            TypeMirror answer = ((ExecutableElement) source.element(method)).getReturnType();
            is("the type that " + source.methodName(method) + " answers", isAllowed(answer), true);
        }
        for (TreePath operation : source.all(BinaryTree.class)) {
            BinaryTree tree = (BinaryTree) operation.getLeaf();
            boolean real = isReal(source.type(operation, tree.getLeftOperand()))
                    || isReal(source.type(operation, tree.getRightOperand()));
            // The one division is that of share, behind its test for 0: it never answers NaN.
            boolean share = tree.toString().equals("(double)count / preferredTotal")
                    && source.methodName(operation).equals("share");
            is("an operation on doubles that is not looked at, " + source.at(operation), real && !share, false);
        }
        TreePath share = source.all(MethodTree.class).stream()
                .filter(m -> source.methodName(m).equals("share")).findFirst().orElseThrow();
        String body = ((MethodTree) share.getLeaf()).getBody().toString().replaceAll("\\s+", " ");
        is("share tests for 0 before it divides", body.matches(".*if \\(preferredTotal == 0\\) \\{ return 0; \\}.*/.*"),
                true);
    }

    // ---- rule 4 (and 13): the library

    private static void library() {
        is("imports", source.unit().getImports().size(), 0);
        for (TreePath call : source.all(MethodInvocationTree.class)) {
            Element callee = source.element(call);
            boolean ownSuper = callee.toString().equals("Object()");
            is("a call of the library that is not looked at, " + source.at(call),
                    source.isOwn(callee) || ownSuper || isListed(callee), true);
        }
        for (TreePath made : source.all(NewClassTree.class)) {
            String name = simple(source.type(made));
            is("an object of the library, " + source.at(made), isOwnClass(source.type(made))
                    || EXCEPTIONS.contains(name), true);
        }
    }

    /** A static function of Integer, Long or Math over int and long, whose name does not end in Exact. */
    private static boolean isListed(Element callee) {
        ExecutableElement method = (ExecutableElement) callee;
        boolean whole = Set.of("int", "long").contains(method.getReturnType().toString());
        for (VariableElement p : method.getParameters()) {
            whole &= Set.of("int", "long").contains(p.asType().toString());
        }
        return whole && isStatic(callee) && !callee.getSimpleName().toString().endsWith("Exact")
                && callee.getEnclosingElement().toString().matches("java\\.lang\\.(Integer|Long|Math)");
    }

    // ---- rule 5: static fields

    private static void staticFields() {
        for (TreePath variable : source.all(VariableTree.class)) {
            Element field = source.element(variable);
            if (field.getKind() == ElementKind.FIELD && isStatic(field)) {
                is(field + " is final", field.getModifiers().contains(Modifier.FINAL), true);
                is("the type of " + field, field.asType().toString()
                        .matches("int|long|boolean|char|java\\.lang\\.String|(int|long|char|byte)\\[\\]"), true);
                Tree start = ((VariableTree) variable.getLeaf()).getInitializer();
                is(field + " is written out", isWrittenOut(start), true);
            }
        }
        for (TreePath name : source.all(IdentifierTree.class)) {
            Element field = source.element(name);
            if (field.getKind() == ElementKind.FIELD && isStatic(field) && field.asType().getKind() == TypeKind.ARRAY) {
                boolean read = name.getParentPath().getLeaf() instanceof ArrayAccessTree access
                        && access.getExpression() == name.getLeaf();
                is("a constant row that is handed on, " + source.at(name.getParentPath()), read, true);
                is("a constant row that is written to",
                        source.writtenIn(source.methodAround(name)).contains(field), false);
            }
        }
        for (TreePath block : source.all(BlockTree.class)) {
            is("an initialiser block", block.getParentPath().getLeaf() instanceof ClassTree, false);
        }
    }

    private static boolean isWrittenOut(Tree start) {
        if (start instanceof NewArrayTree row) {
            return row.getInitializers() != null && row.getInitializers().stream().allMatch(LanguageTest::isWrittenOut);
        }
        return start instanceof LiteralTree || start instanceof UnaryTree sign && sign.getExpression() instanceof LiteralTree;
    }

    // ---- rule 6: exceptions, and comparisons of references

    private static void exceptions() {
        no(TryTree.class, "try: not looked at");
        no(SynchronizedTree.class, "synchronized");
        no(AssertTree.class, "assert");
        for (TreePath marks : source.all(ModifiersTree.class)) {
            Set<Modifier> found = EnumSet.of(Modifier.SYNCHRONIZED, Modifier.VOLATILE, Modifier.TRANSIENT,
                    Modifier.NATIVE, Modifier.STRICTFP);
            found.retainAll(((ModifiersTree) marks.getLeaf()).getFlags());
            is("marks that stand in no rule, " + source.at(marks.getParentPath()), found, Set.of());
        }
        no(InstanceOfTree.class, "instanceof: not looked at");
        for (TreePath thrown : source.all(ThrowTree.class)) {
            boolean plain = ((ThrowTree) thrown.getLeaf()).getExpression() instanceof NewClassTree made
                    && EXCEPTIONS.contains(made.getIdentifier().toString()) && made.getClassBody() == null
                    && made.getArguments().size() <= 1
                    && made.getArguments().stream().allMatch(a -> a.getKind() == Tree.Kind.STRING_LITERAL);
            is("not a plain throw, " + source.at(thrown), plain, true);
            is("a throw in a constructor, " + source.at(thrown), isConstructor(source.methodAround(thrown)), false);
        }
        for (TreePath cast : source.all(TypeCastTree.class)) {
            is("a cast that is not one of numbers, " + source.at(cast), source.type(cast).getKind().isPrimitive()
                    && source.type(cast, ((TypeCastTree) cast.getLeaf()).getExpression()).getKind().isPrimitive(), true);
        }
        for (TreePath piece : source.all(BinaryTree.class)) {
            boolean compares = piece.getLeaf().getKind() == Tree.Kind.EQUAL_TO
                    || piece.getLeaf().getKind() == Tree.Kind.NOT_EQUAL_TO;
            TypeMirror left = source.type(piece, ((BinaryTree) piece.getLeaf()).getLeftOperand());
            is("references compared: not looked at, " + source.at(piece), compares && !left.getKind().isPrimitive(), false);
        }
        throwsWhatItNames();
    }

    /** What can be thrown from a method of the face is what its signature names, all of it. */
    private static void throwsWhatItNames() {
        for (TreePath method : source.all(MethodTree.class)) {
            ExecutableElement element = (ExecutableElement) source.element(method);
            if (!element.getModifiers().contains(Modifier.PUBLIC)) {
                continue;
            }
            Set<String> named = new TreeSet<>();
            element.getThrownTypes().forEach(t -> named.add(simple(t)));
            Set<String> thrown = new TreeSet<>();
            for (TreePath piece : source.all(ThrowTree.class)) {
                if (source.reachedFrom(element).contains(source.element(source.methodAround(piece)))) {
                    thrown.add(simple(source.type(piece, ((ThrowTree) piece.getLeaf()).getExpression())));
                }
            }
            is("what " + element + " can throw", thrown, named);
        }
    }

    // ---- rule 7: the machine never throws

    private static void machineNeverThrows() {
        for (TreePath piece : source.all(Tree.class)) {
            Tree.Kind kind = piece.getLeaf().getKind();
            boolean divides = kind == Tree.Kind.DIVIDE || kind == Tree.Kind.REMAINDER
                    || kind == Tree.Kind.DIVIDE_ASSIGNMENT || kind == Tree.Kind.REMAINDER_ASSIGNMENT;
            is("a division that is not looked at, " + source.at(piece),
                    divides && !piece.getLeaf().toString().equals("(double)count / preferredTotal"), false);
            is("null, " + source.at(piece), kind == Tree.Kind.NULL_LITERAL, false);
        }
        for (TreePath variable : source.all(VariableTree.class)) {
            Element e = source.element(variable);
            boolean isSafe = e.asType().getKind().isPrimitive()
                    || e.getKind() == ElementKind.FIELD && e.getModifiers().contains(Modifier.FINAL);
            is("a reference that is no final field, so may be null, " + source.at(variable), isSafe, true);
        }
        for (TreePath set : source.all(AssignmentTree.class)) {
            AssignmentTree tree = (AssignmentTree) set.getLeaf();
            boolean made = tree.getExpression() instanceof NewArrayTree || tree.getExpression() instanceof NewClassTree;
            is("a reference that is set to something else than a new object, " + source.at(set),
                    source.type(set, tree.getVariable()).getKind().isPrimitive() || made, true);
        }
        for (TreePath row : source.all(NewArrayTree.class)) {
            boolean constant = ((NewArrayTree) row.getLeaf()).getDimensions().stream()
                    .allMatch(d -> d.toString().matches("MAX_[A-Z]+"));
            is("a row whose length is no constant, " + source.at(row), constant, true);
        }
    }

    // ---- rule 8: recursion

    private static void recursion() {
        for (TreePath method : source.all(MethodTree.class)) {
            is(source.methodName(method) + " calls itself", source.callsItself(source.element(method)), false);
        }
    }

    // ---- rule 9: loops

    private static void loops() {
        no(DoWhileLoopTree.class, "a do loop: not looked at");
        for (TreePath piece : source.all(ForLoopTree.class)) {
            ForLoopTree loop = (ForLoopTree) piece.getLeaf();
            List<String> steps = new ArrayList<>();
            loop.getUpdate().forEach(u -> steps.add(u.toString()));
            is("the end of " + source.at(piece), ends(piece, loop.getCondition(), loop.getStatement(), steps), true);
        }
        for (TreePath piece : source.all(WhileLoopTree.class)) {
            WhileLoopTree loop = (WhileLoopTree) piece.getLeaf();
            is("a way past the step of " + source.at(piece), source.inside(piece, ContinueTree.class).size(), 0);
            is("the end of " + source.at(piece), whileEnds(piece, loop), true);
        }
    }

    private static List<ExpressionTree> conditions(ExpressionTree whole) {
        List<ExpressionTree> parts = new ArrayList<>();
        ExpressionTree tree = whole;
        while (tree instanceof ParenthesizedTree p) {
            tree = p.getExpression();
        }
        if (tree != null && tree.getKind() == Tree.Kind.CONDITIONAL_AND) {
            parts.addAll(conditions(((BinaryTree) tree).getLeftOperand()));
            parts.addAll(conditions(((BinaryTree) tree).getRightOperand()));
        } else if (tree != null) {
            parts.add(tree);
        }
        return parts;
    }

    /** One of the conditions holds a counter that only goes up under a bound that stays. */
    private static boolean ends(TreePath loop, ExpressionTree condition, Tree body, List<String> steps) {
        TreePath inside = new TreePath(loop, body);
        for (ExpressionTree part : conditions(condition)) {
            boolean bounded = part.getKind() == Tree.Kind.LESS_THAN || part.getKind() == Tree.Kind.LESS_THAN_EQUAL;
            if (!bounded || !(((BinaryTree) part).getLeftOperand() instanceof IdentifierTree counter)) {
                continue;
            }
            Set<Element> changed = source.writtenFrom(inside);
            boolean stays = names(loop, part).stream().noneMatch(changed::contains);
            if (stays && steps.equals(List.of(counter + "++;"))) {
                return true;
            }
        }
        return false;
    }

    private static Set<Element> names(TreePath loop, Tree part) {
        Set<Element> found = new HashSet<>();
        for (TreePath name : source.inside(loop, IdentifierTree.class)) {
            for (TreePath around = name; around != null; around = around.getParentPath()) {
                if (around.getLeaf() == part) {
                    found.add(source.element(name));
                }
            }
        }
        return found;
    }

    /** One of the conditions is a counter above 0, and the loop's last line lowers it, nothing else. */
    private static boolean whileEnds(TreePath loop, WhileLoopTree tree) {
        if (!(tree.getStatement() instanceof BlockTree block) || block.getStatements().isEmpty()) {
            return false;
        }
        String last = block.getStatements().get(block.getStatements().size() - 1).toString();
        for (ExpressionTree part : conditions(tree.getCondition())) {
            if (part.toString().matches("\\w+ > 0") && last.equals(part.toString().replace(" > 0", "--;"))) {
                Element counter = names(loop, part).iterator().next();
                List<TreePath> writes = source.inside(loop, UnaryTree.class);
                writes.addAll(source.inside(loop, CompoundAssignmentTree.class));
                writes.addAll(source.inside(loop, AssignmentTree.class));
                writes.removeIf(w -> !source.writtenIn(w).contains(counter));
                return writes.size() == 1;
            }
        }
        return false;
    }

    // ---- rule 10: statements and texts

    private static void statements() {
        no(SwitchTree.class, "switch: not looked at");
        no(SwitchExpressionTree.class, "switch: not looked at");
        no(YieldTree.class, "yield");
        for (TreePath piece : source.all(Tree.class)) {
            boolean joins = piece.getLeaf().getKind() == Tree.Kind.PLUS
                    || piece.getLeaf().getKind() == Tree.Kind.PLUS_ASSIGNMENT;
            is("texts joined by +, " + source.at(piece), joins && !source.type(piece).getKind().isPrimitive(), false);
        }
    }

    // ---- rule 11: sizes

    private static void sizes() {
        is("at most 12 classes", source.all(ClassTree.class).size() <= 12, true);
        for (TreePath method : source.all(MethodTree.class)) {
            MethodTree tree = (MethodTree) method.getLeaf();
            is(tree.getName() + " takes at most 7", tree.getParameters().size() <= 7, true);
            is(tree.getName() + " has at most 60 lines", source.lines(tree) <= 60, true);
            is(tree.getName() + " calls at most eight deep", source.depth(source.element(method)) <= 8, true);
        }
        for (TreePath type : source.all(ClassTree.class)) {
            Element element = source.element(type);
            long count = fields().stream().filter(f -> f.getEnclosingElement() == element && !isStatic(f)).count();
            is(element + " has at most 20 fields", count <= 20, true);
        }
    }

    // ---- rule 12: what is made

    /** Rows are made in constructors alone, so that a run of calls makes nothing but exceptions. */
    private static void whatIsMade() {
        List<TreePath> made = source.all(NewClassTree.class);
        made.addAll(source.all(NewArrayTree.class));
        for (TreePath piece : made) {
            TreePath method = source.methodAround(piece);
            boolean thrown = piece.getParentPath().getLeaf() instanceof ThrowTree;
            is("made in a call, " + source.at(piece), method == null || isConstructor(method) || thrown, true);
        }
        for (TreePath method : source.all(MethodTree.class)) {
            if (isConstructor(method)) {
                for (Element callee : source.callsOf(source.element(method))) {
                    is("a constructor calls " + callee, callee.getKind() == ElementKind.CONSTRUCTOR, true);
                }
                for (TreePath name : source.inside(method, IdentifierTree.class)) {
                    is("a constructor hands on this", name.getLeaf().toString().equals("this"), false);
                }
            }
        }
    }

    public static void main(String[] args) throws Exception {
        Path file = Path.of(args.length > 0 ? args[0] : "src/main/java/DefaultReasoner.java");
        source = new Source(file);
        at("rule 1");
        face();
        at("rule 2");
        classesInside();
        at("rule 3");
        types();
        at("rule 4");
        library();
        at("rule 5");
        staticFields();
        at("rule 6");
        exceptions();
        at("rule 7");
        machineNeverThrows();
        at("rule 8");
        recursion();
        at("rule 9");
        loops();
        at("rule 10");
        statements();
        at("rule 11");
        sizes();
        at("rule 12");
        whatIsMade();
        at("rule 4");
        is("signs beyond 126 in the source", Files.readString(file).chars().filter(c -> c > 126).count(), 0L);
        end();
    }
}
