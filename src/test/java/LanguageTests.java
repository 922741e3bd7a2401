import com.sun.source.tree.*;
import com.sun.source.util.JavacTask;
import com.sun.source.util.SourcePositions;
import com.sun.source.util.TreePath;
import com.sun.source.util.TreePathScanner;
import com.sun.source.util.Trees;
import java.nio.charset.StandardCharsets;
import java.nio.file.Files;
import java.nio.file.Path;
import java.util.HashMap;
import java.util.HashSet;
import java.util.List;
import java.util.Map;
import java.util.Set;
import java.util.TreeMap;
import java.util.TreeSet;
import javax.lang.model.element.Element;
import javax.lang.model.element.ElementKind;
import javax.lang.model.element.ExecutableElement;
import javax.lang.model.element.Modifier;
import javax.lang.model.element.TypeElement;
import javax.lang.model.element.VariableElement;
import javax.lang.model.type.ArrayType;
import javax.lang.model.type.TypeMirror;
import javax.tools.JavaCompiler;
import javax.tools.ToolProvider;

/** The rules of ../shared/LANGUAGE.md that can be read from the source of the class. */
public final class LanguageTests {
    private static final Path SOURCE = Path.of("src/main/java/Mutagenry.java");
    private static final Set<String> EXCEPTIONS = Set.of("IllegalStateException", "IllegalArgumentException",
            "IndexOutOfBoundsException", "ArithmeticException", "UnsupportedOperationException",
            "NoSuchElementException", "RuntimeException");
    private static final Set<String> LIBRARY = Set.of("java.lang.Integer.bitCount", "java.lang.Integer.compare",
            "java.lang.Math.abs", "java.lang.Math.max", "java.lang.Math.min", "java.lang.Math.floorMod",
            "java.lang.Math.floorDiv");
    private static final Set<Modifier> OPEN = Set.of(Modifier.PUBLIC, Modifier.PROTECTED);

    // The methods that look at an index, or a divisor, themselves before they use it.
    private static final Set<String> INDEXING = Set.of("Mutagenry.at", "Mutagenry.put", "Words.wordAt", "Words.endAt",
            "Sight.seeWay", "Machine.copyHidden", "Machine.push", "Machine.pop", "Machine.pushValue",
            "Machine.popValue");
    private static final Set<String> DIVIDING = Set.of("Mutagenry.result", "Mutagenry.choose", "Mutagenry.score",
            "Mutagenry.prediction", "Mutagenry.meanKills", "Sets.countDrawn");

    private static int wrong;
    private static int checks;

    private static Trees trees;
    private static SourcePositions positions;
    private static CompilationUnitTree unit;

    private static final Map<String, Integer> fields = new TreeMap<>();
    private static final Map<Element, Set<Element>> calls = new HashMap<>();
    private static final Map<Element, Integer> depths = new HashMap<>();
    private static final Set<String> faceNames = new HashSet<>();
    private static final Set<String> hiddenNames = new TreeSet<>();

    public static void main(String[] args) throws Exception {
        String text = Files.readString(SOURCE, StandardCharsets.UTF_8);
        due(text.chars().allMatch(sign -> sign >= 10 && sign <= 126), "rule 4: signs are 1 to 127");
        JavaCompiler compiler = ToolProvider.getSystemJavaCompiler();
        var files = compiler.getStandardFileManager(null, null, StandardCharsets.UTF_8);
        JavacTask task = (JavacTask) compiler.getTask(null, files, null,
                List.of("-proc:none", "-Xlint:all", "--release", "17"), null, files.getJavaFileObjects(SOURCE));
        unit = task.parse().iterator().next();
        task.analyze();
        trees = Trees.instance(task);
        positions = trees.getSourcePositions();
        checkFile();
        new Rules().scan(unit, null);
        checkNames();
        checkDepths();
        System.out.println("language: " + checks + " checks, " + wrong + " wrong");
        if (wrong != 0) {
            System.exit(1);
        }
    }

    private static void due(boolean is, String what) {
        checks++;
        if (!is) {
            wrong++;
            System.out.println("not as LANGUAGE.md asks: " + what);
        }
    }

    private static void checkFile() {
        due(unit.getPackage() == null, "rule 1: no package line");
        due(unit.getTypeDecls().size() == 1, "rule 1: one public class");
        for (ImportTree it : unit.getImports()) {
            String name = it.getQualifiedIdentifier().toString();
            due(!it.isStatic() && Set.of("java.util.NoSuchElementException", "java.util.ArrayList", "java.util.List",
                    "java.util.Arrays", "java.util.Iterator").contains(name), "rule 4: import " + name);
        }
    }

    private static void checkNames() {
        due(faceNames.size() == 51, "rule 1: 51 names of public methods, not " + faceNames.size());
        for (String name : hiddenNames) {
            due(!faceNames.contains(name), "rule 1: a private method bears the name " + name);
        }
        for (Map.Entry<String, Integer> it : fields.entrySet()) {
            due(it.getValue() <= 20, "rule 11: " + it.getKey() + " has " + it.getValue() + " fields");
        }
        due(fields.size() <= 12, "rule 11: " + fields.size() + " classes");
    }

    private static void checkDepths() {
        int most = 0;
        for (Element method : calls.keySet()) {
            int depth = depth(method, new HashSet<>());
            due(depth <= 8, "rule 11: calls from " + method + " go " + depth + " deep");
            most = Math.max(most, depth);
        }
        due(most > 4, "the calls of " + calls.size() + " methods were not found");
    }

    /** How deep the calls go that a method begins, itself counted; 99 for a recursion. */
    private static int depth(Element method, Set<Element> open) {
        if (!open.add(method)) {
            return 99;
        }
        Integer known = depths.get(method);
        if (known == null) {
            int most = 0;
            for (Element called : calls.getOrDefault(method, Set.of())) {
                most = Math.max(most, depth(called, open));
            }
            known = Math.min(99, most + 1);
            depths.put(method, known);
        }
        open.remove(method);
        return known;
    }

    private static final class Rules extends TreePathScanner<Void, Void> {
        private Element method;
        private String name = "";

        @Override
        public Void visitClass(ClassTree node, Void none) {
            Element it = element();
            String itsName = node.getSimpleName().toString();
            boolean isOuter = getCurrentPath().getParentPath().getLeaf() == unit;
            Set<Modifier> modifiers = it.getModifiers();
            if (isOuter) {
                due(itsName.equals("Mutagenry") && modifiers.equals(Set.of(Modifier.PUBLIC, Modifier.FINAL)),
                        "rule 1: the class is Mutagenry, public and final");
            } else {
                due(it.getEnclosingElement() instanceof TypeElement, "rule 2: " + itsName + " stands in the class");
                due(modifiers.contains(Modifier.STATIC), "rule 1: " + itsName + " is static");
                due(modifiers.stream().noneMatch(OPEN::contains), "rule 1: " + itsName + " is not public");
            }
            fields.put(itsName, 0);
            for (Tree member : node.getMembers()) {
                due(!(member instanceof BlockTree), "rule 5: no initialiser block in " + itsName);
            }
            return super.visitClass(node, none);
        }

        @Override
        public Void visitMethod(MethodTree node, Void none) {
            ExecutableElement it = (ExecutableElement) element();
            if (trees.getTree(it) == null || positions.getEndPosition(unit, node) < 0) {
                return null;
            }
            String owner = it.getEnclosingElement().getSimpleName().toString();
            method = it;
            name = owner + "." + node.getName();
            calls.putIfAbsent(it, new HashSet<>());
            boolean isConstructor = it.getKind() == ElementKind.CONSTRUCTOR;
            boolean isPublic = it.getModifiers().contains(Modifier.PUBLIC);
            due(isPublic ? owner.equals("Mutagenry") : it.getModifiers().contains(Modifier.PRIVATE),
                    "rule 1: " + name + " is public in the outer class, or private");
            if (!isConstructor) {
                (isPublic ? faceNames : hiddenNames).add(node.getName().toString());
            }
            due(!Set.of("equals", "hashCode", "toString").contains(node.getName().toString()), "rule 6: " + name);
            due(node.getParameters().size() <= 7, "rule 11: parameters of " + name);
            long lines = line(positions.getEndPosition(unit, node)) - line(positions.getStartPosition(unit, node)) + 1;
            due(lines <= 60, "rule 11: " + name + " has " + lines + " lines");
            due(!it.getModifiers().contains(Modifier.SYNCHRONIZED), "rule 6: synchronized " + name);
            checkType(it.getReturnType(), name);
            super.visitMethod(node, none);
            method = null;
            name = "";
            return null;
        }

        @Override
        public Void visitVariable(VariableTree node, Void none) {
            VariableElement it = (VariableElement) element();
            checkType(it.asType(), node.getName().toString());
            if (it.getKind() == ElementKind.FIELD) {
                String owner = it.getEnclosingElement().getSimpleName().toString();
                due(it.getModifiers().contains(Modifier.PRIVATE), "rule 1: the field " + owner + "." + node.getName());
                if (it.getModifiers().contains(Modifier.STATIC)) {
                    due(it.getModifiers().contains(Modifier.FINAL) && it.getConstantValue() != null,
                            "rule 5: the static field " + node.getName() + " is a constant");
                } else {
                    fields.merge(owner, 1, Integer::sum);
                }
            }
            return super.visitVariable(node, none);
        }

        @Override
        public Void visitMethodInvocation(MethodInvocationTree node, Void none) {
            Element called = element();
            String owner = called.getEnclosingElement().toString();
            if (owner.startsWith("Mutagenry")) {
                if (method != null && called.getKind() == ElementKind.METHOD) {
                    calls.computeIfAbsent(method, k -> new HashSet<>()).add(called);
                }
            } else if (called.getKind() == ElementKind.METHOD) {
                due(LIBRARY.contains(owner + "." + called.getSimpleName()), "rule 4: " + name + " calls " + called);
            }
            return super.visitMethodInvocation(node, none);
        }

        @Override
        public Void visitThrow(ThrowTree node, Void none) {
            due(method != null && method.getKind() == ElementKind.METHOD, "rule 6: a throw in a constructor");
            due(node.getExpression() instanceof NewClassTree, "rule 6: " + name + " throws new ..");
            if (node.getExpression() instanceof NewClassTree) {
                NewClassTree made = (NewClassTree) node.getExpression();
                due(EXCEPTIONS.contains(made.getIdentifier().toString()), "rule 6: " + name + " throws " + made);
                due(made.getClassBody() == null && made.getArguments().size() <= 1, "rule 6: " + made);
                for (ExpressionTree text : made.getArguments()) {
                    due(text.getKind() == Tree.Kind.STRING_LITERAL, "rule 6: a written text in " + name);
                }
            }
            return super.visitThrow(node, none);
        }

        @Override
        public Void visitNewClass(NewClassTree node, Void none) {
            boolean isThrown = getCurrentPath().getParentPath().getLeaf() instanceof ThrowTree;
            boolean isMadeOnce = method == null || method.getKind() == ElementKind.CONSTRUCTOR;
            due(isThrown || isMadeOnce, "the room: " + name + " makes an object");
            due(node.getClassBody() == null, "rule 2: an anonymous class in " + name);
            return super.visitNewClass(node, none);
        }

        @Override
        public Void visitNewArray(NewArrayTree node, Void none) {
            due(method == null || method.getKind() == ElementKind.CONSTRUCTOR, "the room: " + name + " makes an array");
            for (ExpressionTree size : node.getDimensions()) {
                due(size.getKind() == Tree.Kind.IDENTIFIER || size.getKind() == Tree.Kind.INT_LITERAL
                        || size instanceof BinaryTree, "rule 7: a length that is a constant");
            }
            return super.visitNewArray(node, none);
        }

        @Override
        public Void visitArrayAccess(ArrayAccessTree node, Void none) {
            due(INDEXING.contains(name), "rule 7: " + name + " uses an index");
            return super.visitArrayAccess(node, none);
        }

        @Override
        public Void visitBinary(BinaryTree node, Void none) {
            boolean isDivision = node.getKind() == Tree.Kind.DIVIDE || node.getKind() == Tree.Kind.REMAINDER;
            Element divisor = trees.getElement(new TreePath(getCurrentPath(), node.getRightOperand()));
            boolean isConstant = node.getRightOperand().getKind() == Tree.Kind.INT_LITERAL
                    || divisor instanceof VariableElement && ((VariableElement) divisor).getConstantValue() != null;
            due(!isDivision || isConstant || DIVIDING.contains(name), "rule 7: " + name + " divides");
            if (node.getKind() == Tree.Kind.PLUS) {
                TypeMirror type = trees.getTypeMirror(getCurrentPath());
                due(type == null || type.getKind().isPrimitive(), "rule 10: texts joined by + in " + name);
            }
            return super.visitBinary(node, none);
        }

        @Override
        public Void visitForLoop(ForLoopTree node, Void none) {
            due(node.getCondition() != null, "rule 9: a for without an end in " + name);
            return super.visitForLoop(node, none);
        }

        @Override
        public Void visitWhileLoop(WhileLoopTree node, Void none) {
            String asked = node.getCondition().toString();
            due(!asked.equals("(true)"), "rule 9: a while without an end in " + name);
            return super.visitWhileLoop(node, none);
        }

        @Override
        public Void visitTypeCast(TypeCastTree node, Void none) {
            TypeMirror type = trees.getTypeMirror(new TreePath(getCurrentPath(), node.getType()));
            due(type != null && type.getKind().isPrimitive(), "rule 6: a cast in " + name);
            return super.visitTypeCast(node, none);
        }

        @Override
        public Void visitLambdaExpression(LambdaExpressionTree node, Void none) {
            due(false, "rule 2: a lambda in " + name);
            return super.visitLambdaExpression(node, none);
        }

        @Override
        public Void visitMemberReference(MemberReferenceTree node, Void none) {
            due(false, "rule 2: a method reference in " + name);
            return super.visitMemberReference(node, none);
        }

        @Override
        public Void visitTry(TryTree node, Void none) {
            due(false, "rule 6: the class needs no try, but " + name + " has one");
            return super.visitTry(node, none);
        }

        @Override
        public Void visitSynchronized(SynchronizedTree node, Void none) {
            due(false, "rule 6: synchronized in " + name);
            return super.visitSynchronized(node, none);
        }

        @Override
        public Void visitAssert(AssertTree node, Void none) {
            due(false, "rule 6: assert in " + name);
            return super.visitAssert(node, none);
        }

        @Override
        public Void visitInstanceOf(InstanceOfTree node, Void none) {
            due(false, "rule 6: the class needs no instanceof, but " + name + " has one");
            return super.visitInstanceOf(node, none);
        }

        private Element element() {
            return trees.getElement(getCurrentPath());
        }

        private static long line(long position) {
            return unit.getLineMap().getLineNumber(position);
        }

        private static void checkType(TypeMirror type, String where) {
            TypeMirror of = type;
            int dimensions = 0;
            while (of instanceof ArrayType) {
                of = ((ArrayType) of).getComponentType();
                dimensions++;
            }
            boolean isNumber = of.getKind().isPrimitive();
            String told = of.toString();
            due(isNumber || told.equals("void") || told.equals("java.lang.String") || told.startsWith("Mutagenry"),
                    "rule 3: the type " + told + " of " + where);
            due(dimensions <= (isNumber ? 2 : 1), "rule 3: the dimensions of " + where);
        }
    }
}
