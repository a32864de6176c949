import com.sun.source.tree.AssertTree;
import com.sun.source.tree.BinaryTree;
import com.sun.source.tree.BlockTree;
import com.sun.source.tree.ClassTree;
import com.sun.source.tree.CompilationUnitTree;
import com.sun.source.tree.ConditionalExpressionTree;
import com.sun.source.tree.ExpressionTree;
import com.sun.source.tree.InstanceOfTree;
import com.sun.source.tree.LambdaExpressionTree;
import com.sun.source.tree.LiteralTree;
import com.sun.source.tree.MemberReferenceTree;
import com.sun.source.tree.MethodInvocationTree;
import com.sun.source.tree.MethodTree;
import com.sun.source.tree.NewArrayTree;
import com.sun.source.tree.NewClassTree;
import com.sun.source.tree.SwitchTree;
import com.sun.source.tree.SynchronizedTree;
import com.sun.source.tree.ThrowTree;
import com.sun.source.tree.Tree;
import com.sun.source.tree.TryTree;
import com.sun.source.tree.TypeCastTree;
import com.sun.source.tree.VariableTree;
import com.sun.source.util.JavacTask;
import com.sun.source.util.SourcePositions;
import com.sun.source.util.TreePath;
import com.sun.source.util.TreePathScanner;
import com.sun.source.util.Trees;
import java.io.File;
import java.io.IOException;
import java.util.ArrayList;
import java.util.LinkedHashMap;
import java.util.LinkedHashSet;
import java.util.List;
import java.util.Map;
import java.util.Set;
import java.util.TreeSet;
import javax.lang.model.element.Element;
import javax.lang.model.element.ElementKind;
import javax.lang.model.element.Modifier;
import javax.lang.model.type.ArrayType;
import javax.lang.model.type.TypeKind;
import javax.lang.model.type.TypeMirror;
import javax.tools.JavaCompiler;
import javax.tools.StandardJavaFileManager;
import javax.tools.ToolProvider;

/** The class keeps to the rules of LANGUAGE.md, as far as its source shows it. */
public final class LanguageTest {
    private static final String SOURCE = "src/main/java/GridReckoner.java";
    private static final Set<String> FACE = Set.of("feed(int,int,int,int,int)", "end(int)", "set(int,int)",
            "area(int,int,int,int)", "clear(int,int,int,int)", "copy(int,int,int,int,int,int)",
            "insert(boolean,int,int)", "remove(boolean,int,int)", "name()", "kind(int,int)", "value(int,int)",
            "show(int,int,boolean)", "word(int)", "count(int)");
    private static final Set<String> FACE_NAMES = Set.of("feed", "end", "set", "area", "clear", "copy", "insert",
            "remove", "name", "kind", "value", "show", "word", "count");
    private static final Set<String> LIBRARY = Set.of("String.length", "String.charAt", "String.isEmpty",
            "String.equals", "String.indexOf", "String.substring", "String.toCharArray", "System.arraycopy",
            "Arrays.copyOf", "Arrays.copyOfRange", "Arrays.fill", "Math.max", "Math.min", "Math.abs", "Math.floorDiv",
            "Math.floorMod", "Long.compare", "Integer.compare", "Integer.bitCount", "Long.bitCount", "Object.<init>",
            "Enum.<init>");
    private static final Set<String> THROWN = Set.of("IllegalStateException", "IllegalArgumentException",
            "IndexOutOfBoundsException", "ArithmeticException", "UnsupportedOperationException",
            "NoSuchElementException", "RuntimeException");

    private static int wrong;
    private static int checks;

    private static void due(boolean kept, String rule, String where) {
        checks++;
        if (!kept) {
            wrong++;
            System.out.println("LanguageTest: rule " + rule + ": " + where);
        }
    }

    public static void main(String[] args) throws IOException {
        JavaCompiler compiler = ToolProvider.getSystemJavaCompiler();
        StandardJavaFileManager files = compiler.getStandardFileManager(null, null, null);
        JavacTask task = (JavacTask) compiler.getTask(null, files, null, List.of("-proc:none"), null,
                files.getJavaFileObjects(new File(args.length > 0 ? args[0] : SOURCE)));
        CompilationUnitTree unit = task.parse().iterator().next();
        task.analyze();
        Looker looker = new Looker(Trees.instance(task), unit);
        looker.scan(unit, null);
        looker.judge();
        if (wrong > 0) {
            System.exit(1);
        }
        System.out.println("LanguageTest: all " + checks + " are as due");
    }

    /** Goes through all that stands in the file. */
    private static final class Looker extends TreePathScanner<Void, Void> {
        private final Trees trees;
        private final CompilationUnitTree unit;
        private final SourcePositions places;
        private final Map<Element, Set<Element>> calls = new LinkedHashMap<>();
        private final Set<String> face = new TreeSet<>();
        private Element method;
        private int classes;

        Looker(Trees trees, CompilationUnitTree unit) {
            this.trees = trees;
            this.unit = unit;
            places = trees.getSourcePositions();
        }

        private long line(long position) {
            return unit.getLineMap().getLineNumber(position);
        }

        private String at(Tree tree) {
            String words = tree.toString().strip().replaceAll("\\s+", " ");
            return "line " + line(places.getStartPosition(unit, tree)) + ", "
                    + words.substring(0, Math.min(70, words.length()));
        }

        private Element here() {
            return trees.getElement(getCurrentPath());
        }

        private boolean isOwn(Element e) {
            Element outer = e;
            while (outer.getKind() != ElementKind.PACKAGE && outer.getEnclosingElement().getKind() != ElementKind.PACKAGE) {
                outer = outer.getEnclosingElement();
            }
            return outer.getSimpleName().contentEquals("GridReckoner");
        }

        private boolean isNumber(TypeMirror type) {
            return type.getKind() == TypeKind.INT || type.getKind() == TypeKind.LONG || type.getKind() == TypeKind.SHORT
                    || type.getKind() == TypeKind.BYTE || type.getKind() == TypeKind.CHAR;
        }

        /** Stricter than the rule: the class needs no lists and nothing that is not whole. */
        private boolean isFine(TypeMirror type) {
            if (isNumber(type) || type.getKind() == TypeKind.BOOLEAN || type.toString().equals("java.lang.String")) {
                return true;
            }
            if (type.getKind() == TypeKind.ARRAY) {
                TypeMirror part = ((ArrayType) type).getComponentType();
                return part.getKind() == TypeKind.ARRAY ? isNumber(((ArrayType) part).getComponentType()) : isFine(part);
            }
            return type.toString().startsWith("GridReckoner");
        }

        @Override
        public Void visitClass(ClassTree tree, Void none) {
            classes++;
            Element e = here();
            boolean top = getCurrentPath().getParentPath().getLeaf() == unit;
            Set<Modifier> modifiers = e.getModifiers();
            due(top ? modifiers.contains(Modifier.PUBLIC) && modifiers.contains(Modifier.FINAL)
                    : modifiers.contains(Modifier.STATIC) && !modifiers.contains(Modifier.PUBLIC)
                            && !modifiers.contains(Modifier.PROTECTED), "1", at(tree));
            Tree around = getCurrentPath().getParentPath().getLeaf();
            due(top || around instanceof ClassTree, "2", at(tree));
            int fields = 0;
            for (Tree member : tree.getMembers()) {
                due(!(member instanceof BlockTree), "5", at(member));
                if (member instanceof VariableTree) {
                    Element field = trees.getElement(new TreePath(getCurrentPath(), member));
                    fields += field.getModifiers().contains(Modifier.STATIC) ? 0 : 1;
                    judgeField(field, e, member);
                }
            }
            due(fields <= 20, "11", fields + " fields, " + at(tree));
            return super.visitClass(tree, none);
        }

        private void judgeField(Element field, Element owner, Tree tree) {
            Set<Modifier> modifiers = field.getModifiers();
            if (field.getKind() == ElementKind.ENUM_CONSTANT) {
                return;
            }
            due(modifiers.contains(Modifier.PRIVATE), "1", at(tree));
            if (owner.getKind() == ElementKind.ENUM && !modifiers.contains(Modifier.STATIC)) {
                String type = field.asType().toString();
                due(Set.of("int", "long", "boolean", "java.lang.String").contains(type), "2", at(tree));
            }
            if (modifiers.contains(Modifier.STATIC)) {
                String type = field.asType().toString();
                String value = String.valueOf(((VariableTree) tree).getInitializer());
                boolean row = Set.of("int[]", "long[]", "char[]", "byte[]").contains(type);
                due(modifiers.contains(Modifier.FINAL), "5", at(tree));
                due(Set.of("int", "long", "boolean", "char", "java.lang.String").contains(type)
                        || row && value.contains("{") || value.equals("values()"), "5", at(tree));
            }
        }

        @Override
        public Void visitMethod(MethodTree tree, Void none) {
            Element before = method;
            method = here();
            calls.putIfAbsent(method, new LinkedHashSet<>());
            boolean open = method.getModifiers().contains(Modifier.PUBLIC);
            boolean maker = method.getKind() == ElementKind.CONSTRUCTOR;
            String owner = method.getEnclosingElement().getSimpleName().toString();
            if (open && !maker) {
                face.add(owner.equals("GridReckoner") ? method.toString() : owner + "." + method);
            }
            boolean made = places.getStartPosition(unit, tree) == places.getStartPosition(unit,
                    getCurrentPath().getParentPath().getLeaf());
            due(open || made || method.getModifiers().contains(Modifier.PRIVATE)
                    || method.getEnclosingElement().getKind() == ElementKind.ENUM, "1", at(tree));
            due(open || !FACE_NAMES.contains(tree.getName().toString()), "1", at(tree));
            due(tree.getParameters().size() <= 7, "11", at(tree));
            long lines = line(places.getEndPosition(unit, tree)) - line(places.getStartPosition(unit, tree)) + 1;
            due(lines <= 60, "11", lines + " lines, " + at(tree));
            super.visitMethod(tree, none);
            method = before;
            return null;
        }

        @Override
        public Void visitVariable(VariableTree tree, Void none) {
            due(isFine(here().asType()), "3", at(tree));
            return super.visitVariable(tree, none);
        }

        @Override
        public Void visitMethodInvocation(MethodInvocationTree tree, Void none) {
            Element called = here();
            if (isOwn(called)) {
                boolean values = called.getSimpleName().contentEquals("values");
                due(!values || method == null, "12", at(tree));
                if (method != null) {
                    calls.get(method).add(called);
                }
            } else {
                String name = called.getEnclosingElement().getSimpleName() + "." + called.getSimpleName();
                due(LIBRARY.contains(name), "4", at(tree));
            }
            return super.visitMethodInvocation(tree, none);
        }

        @Override
        public Void visitNewClass(NewClassTree tree, Void none) {
            String name = tree.getIdentifier().toString();
            boolean thrown = getCurrentPath().getParentPath().getLeaf() instanceof ThrowTree;
            boolean constant = method == null;
            due(constant || (thrown ? THROWN.contains(name) : isOwn(here())), thrown ? "6" : "4", at(tree));
            if (!thrown && method != null) {
                calls.get(method).add(here());
            }
            return super.visitNewClass(tree, none);
        }

        @Override
        public Void visitNewArray(NewArrayTree tree, Void none) {
            due(isFine(trees.getTypeMirror(getCurrentPath())), "3", at(tree));
            return super.visitNewArray(tree, none);
        }

        @Override
        public Void visitThrow(ThrowTree tree, Void none) {
            due(method.getKind() != ElementKind.CONSTRUCTOR, "6", at(tree));
            boolean plain = tree.getExpression() instanceof NewClassTree;
            due(plain, "6", at(tree));
            if (plain) {
                List<? extends ExpressionTree> given = ((NewClassTree) tree.getExpression()).getArguments();
                due(given.isEmpty() || given.size() == 1 && given.get(0) instanceof LiteralTree, "6", at(tree));
            }
            return super.visitThrow(tree, none);
        }

        @Override
        public Void visitBinary(BinaryTree tree, Void none) {
            String type = trees.getTypeMirror(getCurrentPath()).toString();
            due(!type.equals("java.lang.String"), "10", at(tree));
            boolean same = tree.getKind() == Tree.Kind.EQUAL_TO || tree.getKind() == Tree.Kind.NOT_EQUAL_TO;
            TypeMirror left = trees.getTypeMirror(new TreePath(getCurrentPath(), tree.getLeftOperand()));
            due(!same || !left.toString().equals("java.lang.String"), "6", at(tree));
            return super.visitBinary(tree, none);
        }

        @Override
        public Void visitSwitch(SwitchTree tree, Void none) {
            ExpressionTree on = tree.getExpression();
            TypeMirror type = trees.getTypeMirror(new TreePath(getCurrentPath(), on));
            due(!type.toString().equals("java.lang.String"), "10", at(tree));
            return super.visitSwitch(tree, none);
        }

        @Override
        public Void visitConditionalExpression(ConditionalExpressionTree tree, Void none) {
            due(isFine(trees.getTypeMirror(getCurrentPath())) || tree.toString().contains("null"), "3", at(tree));
            return super.visitConditionalExpression(tree, none);
        }

        @Override
        public Void visitTypeCast(TypeCastTree tree, Void none) {
            TypeMirror type = trees.getTypeMirror(getCurrentPath());
            due(isNumber(type), "6", at(tree));
            return super.visitTypeCast(tree, none);
        }

        @Override
        public Void visitLambdaExpression(LambdaExpressionTree tree, Void none) {
            due(false, "2", at(tree));
            return super.visitLambdaExpression(tree, none);
        }

        @Override
        public Void visitMemberReference(MemberReferenceTree tree, Void none) {
            due(false, "2", at(tree));
            return super.visitMemberReference(tree, none);
        }

        @Override
        public Void visitTry(TryTree tree, Void none) {
            due(tree.getFinallyBlock() == null && tree.getResources().isEmpty(), "6", at(tree));
            return super.visitTry(tree, none);
        }

        @Override
        public Void visitSynchronized(SynchronizedTree tree, Void none) {
            due(false, "6", at(tree));
            return super.visitSynchronized(tree, none);
        }

        @Override
        public Void visitAssert(AssertTree tree, Void none) {
            due(false, "6", at(tree));
            return super.visitAssert(tree, none);
        }

        @Override
        public Void visitInstanceOf(InstanceOfTree tree, Void none) {
            due(false, "6", at(tree));
            return super.visitInstanceOf(tree, none);
        }

        /** What can only be told of the whole file. */
        void judge() {
            due(face.equals(new TreeSet<>(FACE)), "1", "the face is " + face);
            due(unit.getPackage() == null, "1", "a package");
            due(unit.getTypeDecls().size() == 1, "1", "classes beside the public one");
            due(classes <= 12, "11", classes + " classes");
            for (Element from : calls.keySet()) {
                if (from.getModifiers().contains(Modifier.PUBLIC)) {
                    List<Element> chain = deepest(from, new ArrayList<>());
                    due(chain.size() <= 8, "11", chain.size() + " deep: " + chain);
                }
            }
        }

        private boolean leads(Element from, Element to, Set<Element> seen) {
            for (Element next : calls.getOrDefault(from, Set.of())) {
                if (next.equals(to) || seen.add(next) && leads(next, to, seen)) {
                    return true;
                }
            }
            return false;
        }

        private boolean recurs(Element e) {
            return leads(e, e, new LinkedHashSet<>());
        }

        /** The longest chain of calls from there on; methods that call one another count as one. */
        private List<Element> deepest(Element from, List<Element> before) {
            List<Element> longest = new ArrayList<>();
            List<Element> path = new ArrayList<>(before);
            path.add(from);
            for (Element next : calls.getOrDefault(from, Set.of())) {
                if (!path.contains(next)) {
                    List<Element> chain = deepest(next, path);
                    longest = chain.size() > longest.size() ? chain : longest;
                }
            }
            if (!recurs(from) || longest.isEmpty() || !recurs(longest.get(0))) {
                longest.add(0, from);
            }
            return longest;
        }
    }
}
