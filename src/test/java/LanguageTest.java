import com.sun.source.tree.*;
import com.sun.source.util.JavacTask;
import com.sun.source.util.SourcePositions;
import com.sun.source.util.TreePath;
import com.sun.source.util.TreePathScanner;
import com.sun.source.util.Trees;
import java.nio.file.Files;
import java.nio.file.Path;
import java.util.*;
import java.util.regex.Matcher;
import java.util.regex.Pattern;
import javax.lang.model.element.Element;
import javax.lang.model.element.ElementKind;
import javax.lang.model.element.ExecutableElement;
import javax.lang.model.element.Modifier;
import javax.lang.model.element.TypeElement;
import javax.lang.model.type.ArrayType;
import javax.lang.model.type.TypeKind;
import javax.lang.model.type.TypeMirror;
import javax.tools.JavaCompiler;
import javax.tools.StandardJavaFileManager;
import javax.tools.ToolProvider;

/** The rules of ../shared/LANGUAGE.md that a reader of the source can check, and the face that the document names. */
public final class LanguageTest {
    private static final Path SOURCE = Path.of("src/main/java/NinetyNine.java");
    private static final Path DOCUMENT = Path.of("../shared/DOC.md");
    private static final Set<String> LIBRARY = Set.of(
        "java.lang.Math.min", "java.lang.Math.max", "java.lang.Math.abs", "java.lang.Object.<init>",
        "java.lang.System.arraycopy");
    private static final Set<Tree.Kind> FORBIDDEN = EnumSet.of(
        Tree.Kind.THROW, Tree.Kind.TRY, Tree.Kind.CATCH, Tree.Kind.SYNCHRONIZED, Tree.Kind.ASSERT,
        Tree.Kind.LAMBDA_EXPRESSION, Tree.Kind.MEMBER_REFERENCE, Tree.Kind.IMPORT, Tree.Kind.PACKAGE,
        Tree.Kind.FLOAT_LITERAL, Tree.Kind.DOUBLE_LITERAL, Tree.Kind.STRING_LITERAL, Tree.Kind.ANNOTATION,
        Tree.Kind.SWITCH_EXPRESSION, Tree.Kind.YIELD, Tree.Kind.INSTANCE_OF, Tree.Kind.TYPE_CAST);

    private static final Checks c = new Checks();

    private final Trees trees;
    private final CompilationUnitTree unit;
    private final Set<String> face;
    private final Map<String, Set<String>> calls = new TreeMap<>();
    private final Map<Element, String> methods = new HashMap<>();
    private int classes = 0;

    private LanguageTest(JavacTask task, CompilationUnitTree unit, Set<String> face) {
        this.trees = Trees.instance(task);
        this.unit = unit;
        this.face = face;
    }

    public static void main(String[] args) throws Exception {
        JavaCompiler compiler = ToolProvider.getSystemJavaCompiler();
        try (StandardJavaFileManager files = compiler.getStandardFileManager(null, null, null)) {
            JavacTask task = (JavacTask) compiler.getTask(null, files, null, List.of("-proc:none"), null,
                files.getJavaFileObjects(SOURCE));
            CompilationUnitTree unit = task.parse().iterator().next();
            task.analyze();
            LanguageTest test = new LanguageTest(task, unit, faceOfTheDocument());
            test.texts();
            test.theFace();
            test.scan();
            test.depth();
        }
        c.finish();
    }

    /** As name and types, one for each public member that the document shows. */
    private static Set<String> faceOfTheDocument() throws Exception {
        String text = Files.readString(DOCUMENT);
        String block = text.substring(text.indexOf("```java") + 7);
        block = block.substring(0, block.indexOf("```"));
        Set<String> face = new TreeSet<>();
        Matcher constants = Pattern.compile("public static final int ([^;]*);").matcher(block);
        c.that("the document shows constants", constants.find());
        for (String constant : constants.group(1).split(",")) {
            face.add("int " + constant.split("=")[0].trim());
        }
        Matcher methods = Pattern.compile("public (?:(int|long) )?(\\w+)\\(([^)]*)\\);").matcher(block);
        while (methods.find()) {
            StringBuilder types = new StringBuilder();
            for (String parameter : methods.group(3).split(",")) {
                types.append(parameter.trim().split(" ")[0]).append(' ');
            }
            String name = methods.group(1) == null ? "<init>" : methods.group(1) + " " + methods.group(2);
            face.add(name + "(" + types.toString().trim() + ")");
        }
        c.due("members of the face", face.size(), 51);
        return face;
    }

    private void texts() throws Exception {
        String text = Files.readString(SOURCE);
        for (int i = 0; i < text.length(); i++) {
            c.that("a sign that is not one of 1 to 127 at " + i, text.charAt(i) > 0 && text.charAt(i) < 128);
        }
    }

    private TypeElement type(ClassTree tree) {
        return (TypeElement) trees.getElement(TreePath.getPath(unit, tree));
    }

    private void theFace() {
        c.due("types at the top", unit.getTypeDecls().size(), 1);
        TypeElement top = type((ClassTree) unit.getTypeDecls().get(0));
        c.that("public final class NinetyNine", top.getSimpleName().contentEquals("NinetyNine")
            && top.getModifiers().containsAll(Set.of(Modifier.PUBLIC, Modifier.FINAL)));
        Set<String> seen = new TreeSet<>();
        for (Element e : top.getEnclosedElements()) {
            if (e.getKind().isClass() || e.getKind().isInterface()) {
                continue;
            }
            if (!e.getModifiers().contains(Modifier.PRIVATE)) {
                c.that(e + " is neither public nor private", e.getModifiers().contains(Modifier.PUBLIC));
                seen.add(signature(e));
            }
        }
        c.that("the face is " + seen + ", due is " + face, seen.equals(face));
    }

    private static String signature(Element e) {
        if (!(e instanceof ExecutableElement m)) {
            return e.asType() + " " + e.getSimpleName();
        }
        StringBuilder types = new StringBuilder();
        m.getParameters().forEach(p -> types.append(p.asType()).append(' '));
        String name = m.getKind() == ElementKind.CONSTRUCTOR ? "<init>" : m.getReturnType() + " " + m.getSimpleName();
        return name + "(" + types.toString().trim() + ")";
    }

    private void scan() {
        new Rules().scan(unit, null);
        c.that(classes + " classes are more than twelve", classes <= 12);
    }

    /** The longest chain of calls, one that calls itself counted once: rule 11 wants eight at most. */
    private void depth() {
        Map<String, Set<String>> reach = new TreeMap<>();
        for (String method : calls.keySet()) {
            Set<String> all = new TreeSet<>();
            Deque<String> open = new ArrayDeque<>(calls.get(method));
            while (!open.isEmpty()) {
                String next = open.pop();
                if (all.add(next)) {
                    open.addAll(calls.getOrDefault(next, Set.of()));
                }
            }
            reach.put(method, all);
        }
        Map<String, Integer> deep = new HashMap<>();
        for (String method : calls.keySet()) {
            int d = deepest(method, reach, deep);
            c.that(method + " goes " + d + " calls deep", d <= 8);
            if (reach.get(method).contains(method)) {
                c.that(method + " calls itself and is not private", method.startsWith("private "));
            }
        }
        System.out.println("the longest chain of calls: " + Collections.max(deep.values()));
    }

    private int deepest(String method, Map<String, Set<String>> reach, Map<String, Integer> deep) {
        if (deep.containsKey(method)) {
            return deep.get(method);
        }
        Set<String> ring = new TreeSet<>(Set.of(method));
        for (String other : reach.getOrDefault(method, Set.of())) {
            if (reach.getOrDefault(other, Set.of()).contains(method)) {
                ring.add(other);
            }
        }
        int most = 0;
        for (String member : ring) {
            for (String next : calls.getOrDefault(member, Set.of())) {
                if (!ring.contains(next)) {
                    most = Math.max(most, deepest(next, reach, deep));
                }
            }
        }
        deep.put(method, most + 1);
        return most + 1;
    }

    private String nameOf(Element method) {
        return methods.computeIfAbsent(method, m -> {
            String access = m.getModifiers().contains(Modifier.PRIVATE) ? "private " : "";
            return access + m.getEnclosingElement() + "." + m.getSimpleName() + "/" + ((ExecutableElement) m).getParameters().size();
        });
    }

    private final class Rules extends TreePathScanner<Void, Void> {
        private final SourcePositions positions = trees.getSourcePositions();
        private String method = "the fields";

        private String at(Tree tree) {
            return "line " + unit.getLineMap().getLineNumber(positions.getStartPosition(unit, tree)) + ": ";
        }

        private int lines(Tree tree) {
            LineMap map = unit.getLineMap();
            return (int) (map.getLineNumber(positions.getEndPosition(unit, tree))
                - map.getLineNumber(positions.getStartPosition(unit, tree)) + 1);
        }

        @Override
        public Void scan(Tree tree, Void nothing) {
            if (tree != null) {
                boolean cast = tree instanceof TypeCastTree t && t.getType() instanceof PrimitiveTypeTree;
                c.that(at(tree) + "forbidden: " + tree.getKind(), cast || !FORBIDDEN.contains(tree.getKind()));
            }
            return super.scan(tree, nothing);
        }

        @Override
        public Void visitClass(ClassTree tree, Void nothing) {
            classes++;
            TypeElement type = type(tree);
            boolean top = getCurrentPath().getParentPath().getLeaf() == unit;
            boolean inClass = getCurrentPath().getParentPath().getLeaf() instanceof ClassTree;
            c.that(at(tree) + "a class neither at the top nor in a class", top || inClass);
            c.that(at(tree) + "an inner class that isn't static", top || type.getModifiers().contains(Modifier.STATIC));
            c.that(at(tree) + "a public class inside", top || !type.getModifiers().contains(Modifier.PUBLIC)
                && !type.getModifiers().contains(Modifier.PROTECTED));
            c.that(at(tree) + "a class that extends or implements", tree.getExtendsClause() == null
                && tree.getImplementsClause().isEmpty());
            int fields = 0;
            for (Tree member : tree.getMembers()) {
                c.that(at(member) + "a block of initialisation", !(member instanceof BlockTree));
                if (member instanceof VariableTree v && !v.getModifiers().getFlags().contains(Modifier.STATIC)) {
                    fields++;
                }
            }
            c.that(at(tree) + fields + " fields are more than twenty", fields <= 20);
            return super.visitClass(tree, nothing);
        }

        @Override
        public Void visitVariable(VariableTree tree, Void nothing) {
            Element e = trees.getElement(getCurrentPath());
            TypeMirror type = e.asType();
            c.that(at(tree) + "a type that is none of the language: " + type, allowed(type, 0));
            if (e.getKind() == ElementKind.FIELD && e.getModifiers().contains(Modifier.STATIC)) {
                c.that(at(tree) + "a static field that isn't final", e.getModifiers().contains(Modifier.FINAL));
                c.that(at(tree) + "a static field without a value", tree.getInitializer() != null);
                if (type.getKind() == TypeKind.ARRAY) {
                    c.that(at(tree) + "a static array of more than one dimension, or not written out",
                        ((ArrayType) type).getComponentType().getKind().isPrimitive()
                            && tree.getInitializer().getKind() == Tree.Kind.NEW_ARRAY
                            && ((NewArrayTree) tree.getInitializer()).getInitializers() != null);
                } else {
                    c.that(at(tree) + "a static field of another type", type.getKind().isPrimitive());
                }
            }
            return super.visitVariable(tree, nothing);
        }

        private boolean allowed(TypeMirror type, int dimensions) {
            switch (type.getKind()) {
                case INT: case LONG: case SHORT: case BYTE: case CHAR: case BOOLEAN: return true;
                case ARRAY: {
                    TypeMirror of = ((ArrayType) type).getComponentType();
                    return dimensions < (of.getKind() == TypeKind.DECLARED ? 1 : 2) && allowed(of, dimensions + 1);
                }
                case DECLARED: return type.toString().startsWith("NinetyNine");
                default: return false;
            }
        }

        @Override
        public Void visitMethod(MethodTree tree, Void nothing) {
            Element e = trees.getElement(getCurrentPath());
            boolean written = positions.getEndPosition(unit, tree) > positions.getStartPosition(unit, tree);
            String name = tree.getName().toString();
            boolean ofTheFace = face.stream().anyMatch(f -> f.contains(" " + name + "("));
            c.that(at(tree) + name + " bears the name of the face", !ofTheFace
                || e.getModifiers().contains(Modifier.PUBLIC) && face.contains(signature(e)));
            c.that(at(tree) + name + " has more than seven parameters", tree.getParameters().size() <= 7);
            c.that(at(tree) + name + " is longer than sixty lines", !written || lines(tree) <= 60);
            c.that(at(tree) + name + " throws", tree.getThrows().isEmpty());
            c.that(at(tree) + name + " has the name of a method of every object",
                !Set.of("equals", "hashCode", "toString", "finalize", "clone").contains(name));
            String outer = method;
            method = nameOf(e);
            calls.putIfAbsent(method, new TreeSet<>());
            super.visitMethod(tree, nothing);
            method = outer;
            return null;
        }

        @Override
        public Void visitMethodInvocation(MethodInvocationTree tree, Void nothing) {
            calls(tree, trees.getElement(getCurrentPath()));
            return super.visitMethodInvocation(tree, nothing);
        }

        @Override
        public Void visitNewClass(NewClassTree tree, Void nothing) {
            c.that(at(tree) + "an anonymous class", tree.getClassBody() == null);
            c.that(at(tree) + "made outside fields and constructors", method.equals("the fields") || method.contains("<init>"));
            calls(tree, trees.getElement(getCurrentPath()));
            return super.visitNewClass(tree, nothing);
        }

        @Override
        public Void visitNewArray(NewArrayTree tree, Void nothing) {
            c.that(at(tree) + "an array made outside fields and constructors", method.equals("the fields") || method.contains("<init>"));
            return super.visitNewArray(tree, nothing);
        }

        private void calls(Tree tree, Element callee) {
            String owner = ((TypeElement) callee.getEnclosingElement()).getQualifiedName().toString();
            boolean own = owner.startsWith("NinetyNine");
            c.that(at(tree) + "not in the library: " + owner + "." + callee.getSimpleName(),
                own || LIBRARY.contains(owner + "." + callee.getSimpleName()));
            calls.computeIfAbsent(method, m -> new TreeSet<>()).add(own ? nameOf(callee) : owner + "." + callee.getSimpleName());
        }

        @Override
        public Void visitBinary(BinaryTree tree, Void nothing) {
            TypeMirror type = trees.getTypeMirror(getCurrentPath());
            c.that(at(tree) + "joined by an operator that gives " + type, type.getKind().isPrimitive());
            boolean bits = EnumSet.of(Tree.Kind.AND, Tree.Kind.OR, Tree.Kind.XOR).contains(tree.getKind());
            c.that(at(tree) + "booleans joined as if they were numbers", !bits || type.getKind() != TypeKind.BOOLEAN);
            return super.visitBinary(tree, nothing);
        }

        @Override
        public Void visitCompoundAssignment(CompoundAssignmentTree tree, Void nothing) {
            // Rule 10 lists && and || for booleans, and no other way to join them.
            c.that(at(tree) + "booleans joined as if they were numbers",
                trees.getTypeMirror(getCurrentPath()).getKind() != TypeKind.BOOLEAN);
            return super.visitCompoundAssignment(tree, nothing);
        }

        @Override
        public Void visitWhileLoop(WhileLoopTree tree, Void nothing) {
            c.that(at(tree) + "a loop without a bound", !tree.getCondition().toString().contains("(true)"));
            return super.visitWhileLoop(tree, nothing);
        }

        @Override
        public Void visitForLoop(ForLoopTree tree, Void nothing) {
            c.that(at(tree) + "a loop without a condition", tree.getCondition() != null);
            return super.visitForLoop(tree, nothing);
        }
    }
}
