import com.sun.source.tree.ArrayAccessTree;
import com.sun.source.tree.AssignmentTree;
import com.sun.source.tree.BinaryTree;
import com.sun.source.tree.ClassTree;
import com.sun.source.tree.CompilationUnitTree;
import com.sun.source.tree.CompoundAssignmentTree;
import com.sun.source.tree.ExpressionTree;
import com.sun.source.tree.ImportTree;
import com.sun.source.tree.LiteralTree;
import com.sun.source.tree.MethodTree;
import com.sun.source.tree.NewClassTree;
import com.sun.source.tree.SwitchTree;
import com.sun.source.tree.ThrowTree;
import com.sun.source.tree.Tree;
import com.sun.source.tree.TypeCastTree;
import com.sun.source.tree.VariableTree;
import com.sun.source.util.JavacTask;
import com.sun.source.util.TreePath;
import com.sun.source.util.TreePathScanner;
import com.sun.source.util.Trees;
import java.net.URI;
import java.util.ArrayList;
import java.util.EnumSet;
import java.util.HashSet;
import java.util.List;
import java.util.Set;
import java.util.TreeSet;
import javax.lang.model.element.Element;
import javax.lang.model.element.ElementKind;
import javax.lang.model.element.ExecutableElement;
import javax.lang.model.element.Modifier;
import javax.lang.model.type.ArrayType;
import javax.lang.model.type.DeclaredType;
import javax.lang.model.type.TypeKind;
import javax.lang.model.type.TypeMirror;
import javax.tools.Diagnostic;
import javax.tools.DiagnosticCollector;
import javax.tools.JavaFileObject;
import javax.tools.SimpleJavaFileObject;
import javax.tools.ToolProvider;

/**
 * Reads a program as javac understands it, and tells where it leaves the rules of ../shared/LANGUAGE.md, by their
 * numbers. Where the program has no use for what a rule allows (enums, interfaces, catches, casts among its classes),
 * this refuses it, so that nothing more need be known of it.
 */
final class Rules {
    private static final Set<Tree.Kind> SIGNS = EnumSet.of(Tree.Kind.COMPILATION_UNIT, Tree.Kind.IMPORT,
            Tree.Kind.CLASS, Tree.Kind.METHOD, Tree.Kind.VARIABLE, Tree.Kind.MODIFIERS, Tree.Kind.BLOCK, Tree.Kind.IF,
            Tree.Kind.FOR_LOOP, Tree.Kind.WHILE_LOOP, Tree.Kind.SWITCH, Tree.Kind.CASE, Tree.Kind.BREAK,
            Tree.Kind.CONTINUE, Tree.Kind.RETURN, Tree.Kind.THROW, Tree.Kind.EXPRESSION_STATEMENT,
            Tree.Kind.METHOD_INVOCATION, Tree.Kind.NEW_CLASS, Tree.Kind.NEW_ARRAY, Tree.Kind.ARRAY_ACCESS,
            Tree.Kind.ARRAY_TYPE, Tree.Kind.PRIMITIVE_TYPE, Tree.Kind.PARAMETERIZED_TYPE, Tree.Kind.IDENTIFIER,
            Tree.Kind.MEMBER_SELECT, Tree.Kind.PARENTHESIZED, Tree.Kind.CONDITIONAL_EXPRESSION, Tree.Kind.TYPE_CAST,
            Tree.Kind.ASSIGNMENT, Tree.Kind.PLUS_ASSIGNMENT, Tree.Kind.MINUS_ASSIGNMENT, Tree.Kind.OR_ASSIGNMENT,
            Tree.Kind.POSTFIX_INCREMENT, Tree.Kind.POSTFIX_DECREMENT, Tree.Kind.UNARY_MINUS,
            Tree.Kind.LOGICAL_COMPLEMENT, Tree.Kind.PLUS, Tree.Kind.MINUS, Tree.Kind.MULTIPLY, Tree.Kind.DIVIDE,
            Tree.Kind.REMAINDER, Tree.Kind.LEFT_SHIFT, Tree.Kind.RIGHT_SHIFT, Tree.Kind.AND, Tree.Kind.OR,
            Tree.Kind.LESS_THAN, Tree.Kind.LESS_THAN_EQUAL, Tree.Kind.GREATER_THAN, Tree.Kind.GREATER_THAN_EQUAL,
            Tree.Kind.EQUAL_TO, Tree.Kind.NOT_EQUAL_TO, Tree.Kind.CONDITIONAL_AND, Tree.Kind.CONDITIONAL_OR,
            Tree.Kind.INT_LITERAL, Tree.Kind.LONG_LITERAL, Tree.Kind.CHAR_LITERAL, Tree.Kind.STRING_LITERAL,
            Tree.Kind.BOOLEAN_LITERAL, Tree.Kind.NULL_LITERAL);
    private static final Set<String> EXCEPTIONS = Set.of("java.lang.IllegalStateException",
            "java.lang.IllegalArgumentException", "java.lang.IndexOutOfBoundsException",
            "java.lang.ArithmeticException", "java.lang.UnsupportedOperationException",
            "java.util.NoSuchElementException");
    private static final Set<String> LIBRARY = Set.of("String.length()", "String.charAt(int)", "String.isEmpty()",
            "String.equals(java.lang.Object)", "StringBuilder.StringBuilder()", "StringBuilder.append(char)",
            "StringBuilder.setLength(int)", "StringBuilder.length()", "StringBuilder.toString()",
            "ArrayList.ArrayList()", "ArrayList.add(E)", "ArrayList.get(int)", "ArrayList.set(int,E)",
            "ArrayList.remove(int)", "ArrayList.size()", "ArrayList.isEmpty()", "ArrayList.clear()",
            "Math.min(int,int)", "Math.max(int,int)", "Math.abs(int)", "Integer.bitCount(int)", "Object.Object()",
            "System.arraycopy(java.lang.Object,int,java.lang.Object,int,int)");
    private static final int MOST_PARAMETERS = 7;
    private static final int MOST_LINES = 60;
    private static final int MOST_CLASSES = 12;
    private static final int MOST_FIELDS = 20;

    private final List<String> faults = new ArrayList<>();
    private final CallGraph calls = new CallGraph();
    private CompilationUnitTree unit;
    private Trees trees;
    private int classes;

    private Rules() {
    }

    /** What is wrong with a program, each fault as "rule N, line M: what". */
    static List<String> findFaults(String text) throws Exception {
        Rules rules = new Rules();
        rules.read(text);
        return rules.faults;
    }

    private void read(String text) throws Exception {
        DiagnosticCollector<JavaFileObject> told = new DiagnosticCollector<>();
        JavacTask task = (JavacTask) ToolProvider.getSystemJavaCompiler().getTask(null, null, told,
                List.of("-proc:none", "-Xlint:all"), null, List.of(new Text(text)));
        trees = Trees.instance(task);
        unit = task.parse().iterator().next();
        task.analyze();
        boolean isCompiled = true;
        for (Diagnostic<?> one : told.getDiagnostics()) {
            faults.add("javac: " + one);
            isCompiled &= one.getKind() != Diagnostic.Kind.ERROR;
        }
        if (isCompiled) {
            new Walk().scan(new TreePath(unit), null);
            faults.addAll(calls.findFaults());
        }
        if (classes > MOST_CLASSES) {
            faults.add("rule 11, " + classes + " classes");
        }
    }

    private static final class Text extends SimpleJavaFileObject {
        private final String text;

        Text(String text) {
            super(URI.create("string:///ElmLedger.java"), Kind.SOURCE);
            this.text = text;
        }

        @Override
        public CharSequence getCharContent(boolean isLenient) {
            return text;
        }
    }

    private long lineOf(long place) {
        return unit.getLineMap().getLineNumber(place);
    }

    private long startOf(Tree tree) {
        return trees.getSourcePositions().getStartPosition(unit, tree);
    }

    private long endOf(Tree tree) {
        return trees.getSourcePositions().getEndPosition(unit, tree);
    }

    private void tell(int rule, Tree tree, String what) {
        faults.add("rule " + rule + ", line " + lineOf(startOf(tree)) + ": " + what + ": "
                + tree.toString().strip().split("\n")[0]);
    }

    private static int ruleOf(Tree.Kind kind) {
        return switch (kind) {
            case ENUM, INTERFACE, RECORD, ANNOTATION_TYPE, LAMBDA_EXPRESSION, MEMBER_REFERENCE -> 2;
            case TRY, CATCH, SYNCHRONIZED, ASSERT, INSTANCE_OF -> 6;
            default -> 10;
        };
    }

    private final class Walk extends TreePathScanner<Void, Void> {
        @Override
        public Void scan(Tree tree, Void nothing) {
            if (tree != null && !SIGNS.contains(tree.getKind())) {
                tell(ruleOf(tree.getKind()), tree, "no part of the language here, " + tree.getKind());
            }
            if (tree instanceof ExpressionTree expression && getCurrentPath() != null) {
                checkType(expression, typeOf(expression));
            }
            return super.scan(tree, nothing);
        }

        private TypeMirror typeOf(Tree tree) {
            return trees.getTypeMirror(new TreePath(getCurrentPath(), tree));
        }

        private Element elementOf(Tree tree) {
            return trees.getElement(new TreePath(getCurrentPath(), tree));
        }

        @Override
        public Void visitImport(ImportTree tree, Void nothing) {
            String name = tree.getQualifiedIdentifier().toString();
            if (tree.isStatic() || !Set.of("java.util.ArrayList", "java.util.NoSuchElementException").contains(name)) {
                tell(4, tree, "no such import");
            }
            return null;
        }

        @Override
        public Void visitClass(ClassTree tree, Void nothing) {
            classes++;
            Set<Modifier> modifiers = tree.getModifiers().getFlags();
            Tree around = getCurrentPath().getParentPath().getLeaf();
            boolean isFace = around == unit;
            if (isFace && !modifiers.equals(Set.of(Modifier.PUBLIC, Modifier.FINAL))) {
                tell(1, tree, "the class is public and final");
            }
            if (!isFace && !modifiers.equals(Set.of(Modifier.PRIVATE, Modifier.STATIC, Modifier.FINAL))) {
                tell(2, tree, "a class inside is private, static and final");
            }
            if (!isFace && around != unit.getTypeDecls().get(0)) {
                tell(2, tree, "a class deep inside");
            }
            if (tree.getExtendsClause() != null || !tree.getImplementsClause().isEmpty()) {
                tell(2, tree, "a class of its own");
            }
            checkMembers(tree);
            return super.visitClass(tree, nothing);
        }

        private void checkMembers(ClassTree tree) {
            int fields = 0;
            for (Tree member : tree.getMembers()) {
                if (member instanceof VariableTree field) {
                    Set<Modifier> modifiers = field.getModifiers().getFlags();
                    boolean isStatic = modifiers.contains(Modifier.STATIC);
                    fields += isStatic ? 0 : 1;
                    if (!modifiers.contains(Modifier.PRIVATE)) {
                        tell(1, member, "a field is private");
                    }
                    if (isStatic && !(modifiers.contains(Modifier.FINAL) && isConstant(field))) {
                        tell(5, member, "a static field is a constant");
                    }
                } else if (member.getKind() == Tree.Kind.BLOCK) {
                    tell(5, member, "no block in a class");
                }
            }
            if (fields > MOST_FIELDS) {
                tell(11, tree, fields + " fields");
            }
        }

        private boolean isConstant(VariableTree field) {
            String type = field.getType().toString();
            return Set.of("int", "long", "boolean", "char", "String").contains(type) && field.getInitializer() != null;
        }

        @Override
        public Void visitMethod(MethodTree tree, Void nothing) {
            ExecutableElement method = (ExecutableElement) trees.getElement(getCurrentPath());
            boolean isWritten = startOf(tree) >= 0 && endOf(tree) > startOf(tree);
            boolean isConstructor = method.getKind() == ElementKind.CONSTRUCTOR;
            boolean isOfFace = method.getModifiers().contains(Modifier.PUBLIC);
            checkModifiers(tree, method, isConstructor);
            if (method.getReturnType().getKind() != TypeKind.VOID && !isAllowed(method.getReturnType())) {
                tell(3, tree, "an answer of the type " + method.getReturnType());
            }
            if (tree.getParameters().size() > MOST_PARAMETERS) {
                tell(11, tree, "too many parameters");
            }
            if (isWritten && lineOf(endOf(tree)) - lineOf(startOf(tree)) >= MOST_LINES) {
                tell(11, tree, "a long method");
            }
            Set<String> thrown = new TreeSet<>();
            method.getThrownTypes().forEach(type -> thrown.add(type.toString()));
            if (!thrown.equals(findThrown(tree))) {
                tell(6, tree, "it throws what it does not tell, or tells what it does not throw");
            }
            if (!thrown.isEmpty() && (!isOfFace || isConstructor)) {
                tell(6, tree, "only methods of the face throw");
            }
            calls.addMethod(method);
            return super.visitMethod(tree, nothing);
        }

        private void checkModifiers(MethodTree tree, ExecutableElement method, boolean isConstructor) {
            Set<Modifier> others = new HashSet<>(method.getModifiers());
            others.removeAll(Set.of(Modifier.PUBLIC, Modifier.PRIVATE, Modifier.STATIC));
            boolean isInFace = method.getEnclosingElement().getSimpleName().contentEquals("ElmLedger");
            boolean isPublic = method.getModifiers().contains(Modifier.PUBLIC);
            boolean isPrivate = method.getModifiers().contains(Modifier.PRIVATE);
            if (!others.isEmpty()) {
                tell(6, tree, "modifiers");
            }
            if (isPublic != isInFace && !isPrivate || isPublic && method.getModifiers().contains(Modifier.STATIC)) {
                tell(1, tree, "public methods stand in the face, others are private");
            }
            for (Element other : method.getEnclosingElement().getEnclosedElements()) {
                if (isPrivate && !isConstructor && other.getModifiers().contains(Modifier.PUBLIC)
                        && other.getSimpleName().equals(method.getSimpleName())) {
                    tell(1, tree, "a private method with the name of a public one");
                }
            }
        }

        private Set<String> findThrown(MethodTree tree) {
            Set<String> thrown = new TreeSet<>();
            new TreePathScanner<Void, Void>() {
                @Override
                public Void visitThrow(ThrowTree tree, Void nothing) {
                    TreePath made = new TreePath(getCurrentPath(), tree.getExpression());
                    thrown.add(String.valueOf(trees.getTypeMirror(made)));
                    return null;
                }
            }.scan(getCurrentPath(), null);
            return thrown;
        }

        @Override
        public Void visitThrow(ThrowTree tree, Void nothing) {
            boolean isRight = tree.getExpression() instanceof NewClassTree made
                    && EXCEPTIONS.contains(String.valueOf(typeOf(made))) && made.getArguments().size() == 1
                    && made.getArguments().get(0).getKind() == Tree.Kind.STRING_LITERAL;
            if (!isRight) {
                tell(6, tree, "a throw of another kind");
            }
            return null;
        }

        @Override
        public Void visitVariable(VariableTree tree, Void nothing) {
            TypeMirror type = trees.getElement(getCurrentPath()).asType();
            if (!isAllowed(type)) {
                tell(3, tree, "a variable of the type " + type);
            }
            return super.visitVariable(tree, nothing);
        }

        private void checkType(ExpressionTree tree, TypeMirror type) {
            if (type == null || Set.of(TypeKind.VOID, TypeKind.NULL, TypeKind.PACKAGE, TypeKind.EXECUTABLE)
                    .contains(type.getKind())) {
                return;
            }
            Element element = elementOf(tree);
            boolean isName = element != null && element.getKind().isClass();
            if (!isName && !isAllowed(type)) {
                tell(3, tree, "an expression of the type " + type);
            }
            boolean isOfLibrary = element != null && element.getKind().isField()
                    && element.getEnclosingElement().toString().startsWith("java.");
            if (isOfLibrary) {
                tell(4, tree, "a field of the library");
            }
        }

        @Override
        public Void visitMethodInvocation(com.sun.source.tree.MethodInvocationTree tree, Void nothing) {
            Element called = elementOf(tree.getMethodSelect());
            noteCall(tree, called);
            return super.visitMethodInvocation(tree, nothing);
        }

        @Override
        public Void visitNewClass(NewClassTree tree, Void nothing) {
            noteCall(tree, trees.getElement(getCurrentPath()));
            if (tree.getClassBody() != null) {
                tell(2, tree, "a class without a name");
            }
            return super.visitNewClass(tree, nothing);
        }

        private void noteCall(Tree tree, Element called) {
            if (!(called instanceof ExecutableElement method)) {
                tell(4, tree, "a call of what?");
                return;
            }
            String owner = method.getEnclosingElement().toString();
            if (owner.startsWith("ElmLedger")) {
                calls.addCall(findMethod(), method);
            } else if (!LIBRARY.contains(writeCall(method))) {
                tell(4, tree, "a call of the library, " + writeCall(method));
            }
        }

        private String writeCall(ExecutableElement method) {
            String owner = method.getEnclosingElement().getSimpleName().toString()
                    .replace("AbstractStringBuilder", "StringBuilder");
            return owner + "." + method.toString().replaceFirst("^<E>|^<init>", "");
        }

        private ExecutableElement findMethod() {
            for (TreePath path = getCurrentPath(); path != null; path = path.getParentPath()) {
                if (path.getLeaf() instanceof MethodTree) {
                    return (ExecutableElement) trees.getElement(path);
                }
            }
            return null;
        }

        @Override
        public Void visitLiteral(LiteralTree tree, Void nothing) {
            if (tree.getValue() instanceof String text && !text.chars().allMatch(sign -> sign >= 1 && sign <= 127)) {
                tell(4, tree, "a sign beyond 127");
            }
            if (tree.getValue() instanceof Character sign && sign > 255) {
                tell(3, tree, "a sign beyond 255");
            }
            return null;
        }

        @Override
        public Void visitTypeCast(TypeCastTree tree, Void nothing) {
            if (!typeOf(tree.getType()).getKind().isPrimitive()
                    || !typeOf(tree.getExpression()).getKind().isPrimitive()) {
                tell(6, tree, "a cast of an object");
            }
            return super.visitTypeCast(tree, nothing);
        }

        @Override
        public Void visitSwitch(SwitchTree tree, Void nothing) {
            if (!typeOf(tree.getExpression()).getKind().isPrimitive()) {
                tell(10, tree, "a switch on an object");
            }
            return super.visitSwitch(tree, nothing);
        }

        @Override
        public Void visitBinary(BinaryTree tree, Void nothing) {
            TypeMirror left = typeOf(tree.getLeftOperand());
            TypeMirror right = typeOf(tree.getRightOperand());
            boolean isComparison = tree.getKind() == Tree.Kind.EQUAL_TO || tree.getKind() == Tree.Kind.NOT_EQUAL_TO;
            if (isComparison && (isOfLibrary(left) && right.getKind() != TypeKind.NULL
                    || isOfLibrary(right) && left.getKind() != TypeKind.NULL)) {
                tell(6, tree, "texts or lists are not compared so");
            }
            if (tree.getKind() == Tree.Kind.PLUS && (isOfLibrary(left) || isOfLibrary(right))) {
                tell(10, tree, "texts are not joined so");
            }
            if (tree.getKind() == Tree.Kind.DIVIDE || tree.getKind() == Tree.Kind.REMAINDER) {
                checkDivisor(tree, left, right);
            }
            return super.visitBinary(tree, nothing);
        }

        private boolean isOfLibrary(TypeMirror type) {
            return type.getKind() == TypeKind.DECLARED && type.toString().startsWith("java.");
        }

        /** A divisor is a constant, or its method looks at it ahead of the division. */
        private void checkDivisor(BinaryTree tree, TypeMirror left, TypeMirror right) {
            boolean isFraction = isFraction(left) || isFraction(right);
            if (isFraction && tree.getKind() == Tree.Kind.REMAINDER) {
                tell(3, tree, "a rest of a fraction");
            }
            String divisor = tree.getRightOperand().toString().replaceFirst("^\\((float|double)\\)", "");
            if (divisor.matches("[1-9]\\d*|[A-Z_]+")) {
                return;
            }
            String ahead = textFromMethodTo(tree);
            if (!ahead.contains(divisor + " > 0 &&") && !ahead.contains("if (" + divisor + " == 0) {")) {
                tell(7, tree, "a divisor that is not looked at");
            }
        }

        private boolean isFraction(TypeMirror type) {
            return type.getKind() == TypeKind.FLOAT || type.getKind() == TypeKind.DOUBLE;
        }

        private String textFromMethodTo(Tree tree) {
            TreePath path = getCurrentPath();
            while (!(path.getLeaf() instanceof MethodTree) && path.getParentPath() != null) {
                path = path.getParentPath();
            }
            try {
                String text = unit.getSourceFile().getCharContent(true).toString();
                return text.substring((int) startOf(path.getLeaf()), (int) startOf(tree));
            } catch (java.io.IOException e) {
                throw new IllegalStateException(e);
            }
        }

        @Override
        public Void visitCompoundAssignment(CompoundAssignmentTree tree, Void nothing) {
            if (isOfLibrary(typeOf(tree.getVariable()))) {
                tell(10, tree, "texts are not joined so");
            }
            return super.visitCompoundAssignment(tree, nothing);
        }

        @Override
        public Void visitAssignment(AssignmentTree tree, Void nothing) {
            if (tree.getVariable() instanceof ArrayAccessTree access
                    && !typeOf(access.getExpression()).toString().matches("(int|char|boolean)(\\[\\])+")
                    && !isNumbers(access)) {
                tell(7, tree, "an array that may hold other classes");
            }
            return super.visitAssignment(tree, nothing);
        }

        /** An element of a row of an array of two dimensions. */
        private boolean isNumbers(ArrayAccessTree access) {
            TypeMirror type = typeOf(access);
            return type != null && type.getKind().isPrimitive();
        }

        @Override
        public Void visitForLoop(com.sun.source.tree.ForLoopTree tree, Void nothing) {
            String fault = Loops.findFault(tree);
            if (fault != null) {
                tell(9, tree, fault);
            }
            return super.visitForLoop(tree, nothing);
        }

        @Override
        public Void visitWhileLoop(com.sun.source.tree.WhileLoopTree tree, Void nothing) {
            String fault = Loops.findFault(tree);
            if (fault != null) {
                tell(9, tree, fault);
            }
            return super.visitWhileLoop(tree, nothing);
        }
    }

    private static boolean isAllowed(TypeMirror type) {
        if (type.getKind().isPrimitive()) {
            return true;
        }
        if (type instanceof ArrayType array) {
            TypeMirror part = array.getComponentType();
            return part.getKind().isPrimitive()
                    || part instanceof ArrayType row && row.getComponentType().getKind().isPrimitive();
        }
        if (!(type instanceof DeclaredType declared)) {
            return false;
        }
        String name = declared.asElement().toString();
        if (name.equals("java.util.ArrayList")) {
            return declared.getTypeArguments().size() == 1
                    && declared.getTypeArguments().get(0).toString().startsWith("ElmLedger.");
        }
        return name.startsWith("ElmLedger") || name.equals("java.lang.String") || name.equals("java.lang.StringBuilder")
                || EXCEPTIONS.contains(name);
    }
}
