import com.sun.source.tree.AssertTree;
import com.sun.source.tree.BinaryTree;
import com.sun.source.tree.CatchTree;
import com.sun.source.tree.ClassTree;
import com.sun.source.tree.CompilationUnitTree;
import com.sun.source.tree.CompoundAssignmentTree;
import com.sun.source.tree.ForLoopTree;
import com.sun.source.tree.IdentifierTree;
import com.sun.source.tree.LambdaExpressionTree;
import com.sun.source.tree.LineMap;
import com.sun.source.tree.MemberReferenceTree;
import com.sun.source.tree.MemberSelectTree;
import com.sun.source.tree.MethodInvocationTree;
import com.sun.source.tree.MethodTree;
import com.sun.source.tree.NewClassTree;
import com.sun.source.tree.SynchronizedTree;
import com.sun.source.tree.ThrowTree;
import com.sun.source.tree.Tree;
import com.sun.source.tree.TryTree;
import com.sun.source.tree.TypeCastTree;
import com.sun.source.tree.VariableTree;
import com.sun.source.tree.WhileLoopTree;
import com.sun.source.util.JavacTask;
import com.sun.source.util.SourcePositions;
import com.sun.source.util.TreePath;
import com.sun.source.util.TreePathScanner;
import com.sun.source.util.TreeScanner;
import com.sun.source.util.Trees;
import java.io.File;
import java.lang.reflect.Constructor;
import java.lang.reflect.Field;
import java.lang.reflect.Method;
import java.lang.reflect.Modifier;
import java.util.ArrayDeque;
import java.util.ArrayList;
import java.util.Deque;
import java.util.HashMap;
import java.util.HashSet;
import java.util.List;
import java.util.Map;
import java.util.Set;
import java.util.TreeSet;
import javax.lang.model.element.Element;
import javax.lang.model.element.ElementKind;
import javax.lang.model.element.TypeElement;
import javax.lang.model.type.TypeMirror;
import javax.tools.JavaCompiler;
import javax.tools.StandardJavaFileManager;
import javax.tools.ToolProvider;

/** The rules of LANGUAGE.md that a machine can look at; the first argument is the class's source. */
public final class KeepsLanguage {
    private static final String FACE = "status asof account issue trade feed event fault choices choose strike own total"
            + " worth coin chosen stays bears done due option optionOn term upper lower rate brings best name called find"
            + " hint explain rivals because";
    private static int wrong;

    private static void due(boolean holds, String what) {
        if (!holds) {
            wrong++;
            System.out.println("not kept: " + what);
        }
    }

    private static void face() {
        Set<String> names = new TreeSet<>(List.of(FACE.split(" ")));
        Set<String> found = new TreeSet<>();
        for (Method m : ShareLife.class.getDeclaredMethods()) {
            if (Modifier.isPublic(m.getModifiers())) {
                due(found.add(m.getName()), "one public " + m.getName());
            } else {
                due(Modifier.isPrivate(m.getModifiers()), m.getName() + " is private");
                due(!names.contains(m.getName()), "no private method " + m.getName());
            }
        }
        due(found.equals(names), "the public methods are the document's: " + found);
        for (Constructor<?> c : ShareLife.class.getDeclaredConstructors()) {
            due(Modifier.isPublic(c.getModifiers()) && c.getParameterCount() == 0, "one public constructor");
        }
        for (Field f : ShareLife.class.getDeclaredFields()) {
            boolean none = f.getName().equals("NONE");
            due(none ? Modifier.isPublic(f.getModifiers()) : Modifier.isPrivate(f.getModifiers()), "field " + f.getName());
        }
        due(Modifier.isFinal(ShareLife.class.getModifiers()), "a final class");
        due(ShareLife.class.getDeclaredClasses().length <= 11, "some twelve classes");
        for (Class<?> c : ShareLife.class.getDeclaredClasses()) {
            due(Modifier.isStatic(c.getModifiers()) && !Modifier.isPublic(c.getModifiers()), c + " is static, not public");
            int fields = 0;
            for (Field f : c.getDeclaredFields()) {
                fields += Modifier.isStatic(f.getModifiers()) ? 0 : 1;
                due(!Modifier.isStatic(f.getModifiers()) || Modifier.isFinal(f.getModifiers()), f + " is final");
            }
            due(fields <= 20, c + " has some twenty fields, not " + fields);
        }
    }

    /** Walks the source and keeps for each method (by class and name) whom it calls by name. */
    private static final class Scan extends TreeScanner<Void, Void> {
        final Map<String, Set<String>> calls = new HashMap<>();
        final Map<String, Set<String>> owners = new HashMap<>();
        final Deque<String> classes = new ArrayDeque<>();
        final LineMap lines;
        final SourcePositions places;
        final CompilationUnitTree unit;
        String method;

        Scan(CompilationUnitTree unit, SourcePositions places) {
            this.unit = unit;
            this.lines = unit.getLineMap();
            this.places = places;
        }

        long line(Tree tree) {
            return lines.getLineNumber(places.getStartPosition(unit, tree));
        }

        void never(Tree tree, String what) {
            due(false, "no " + what + " (line " + line(tree) + ")");
        }

        @Override
        public Void visitClass(ClassTree tree, Void none) {
            due(method == null, "no local class (line " + line(tree) + ")");
            classes.push(tree.getSimpleName().toString());
            super.visitClass(tree, none);
            classes.pop();
            return null;
        }

        @Override
        public Void visitMethod(MethodTree tree, Void none) {
            method = classes.peek() + "." + tree.getName();
            long length = lines.getLineNumber(places.getEndPosition(unit, tree)) - line(tree) + 1;
            due(length <= 60, method + " is some sixty lines, not " + length);
            due(tree.getParameters().size() <= 7, method + " takes at most seven");
            due(!method.equals("ShareLife." + tree.getName()) || calls.put(method, new HashSet<>()) == null, "one " + method);
            calls.putIfAbsent(method, new HashSet<>());
            owners.computeIfAbsent(tree.getName().toString(), k -> new HashSet<>()).add(classes.peek());
            super.visitMethod(tree, none);
            method = null;
            return null;
        }

        @Override
        public Void visitMethodInvocation(MethodInvocationTree tree, Void none) {
            if (method != null) {
                if (tree.getMethodSelect() instanceof IdentifierTree) {
                    calls.get(method).add(classes.peek() + "." + tree.getMethodSelect());
                } else if (tree.getMethodSelect() instanceof MemberSelectTree select) {
                    calls.get(method).add("?." + select.getIdentifier());
                }
            }
            return super.visitMethodInvocation(tree, none);
        }

        @Override
        public Void visitVariable(VariableTree tree, Void none) {
            String type = String.valueOf(tree.getType());
            due(!type.contains("[][][]") && !type.equals("var"), "type " + type + " (line " + line(tree) + ")");
            return super.visitVariable(tree, none);
        }

        @Override
        public Void visitNewClass(NewClassTree tree, Void none) {
            due(tree.getClassBody() == null, "no anonymous class (line " + line(tree) + ")");
            return super.visitNewClass(tree, none);
        }

        @Override
        public Void visitThrow(ThrowTree tree, Void none) {
            never(tree, "throw");
            return null;
        }

        @Override
        public Void visitTry(TryTree tree, Void none) {
            never(tree, "try");
            return null;
        }

        @Override
        public Void visitCatch(CatchTree tree, Void none) {
            never(tree, "catch");
            return null;
        }

        @Override
        public Void visitAssert(AssertTree tree, Void none) {
            never(tree, "assert");
            return null;
        }

        @Override
        public Void visitSynchronized(SynchronizedTree tree, Void none) {
            never(tree, "synchronized");
            return null;
        }

        @Override
        public Void visitLambdaExpression(LambdaExpressionTree tree, Void none) {
            never(tree, "lambda");
            return null;
        }

        @Override
        public Void visitMemberReference(MemberReferenceTree tree, Void none) {
            never(tree, "method reference");
            return null;
        }

        /** How deep calls go from a method, those of the library too. */
        int depth(String from, List<String> open) {
            due(!open.contains(from), "no recursion: " + open + " " + from);
            if (open.contains(from)) {
                return 0;
            }
            open.add(from);
            int deepest = 0;
            for (String call : calls.get(from)) {
                String name = call.substring(call.indexOf('.') + 1);
                deepest = Math.max(deepest, owners.containsKey(name) ? 0 : 1);
                for (String owner : owners.getOrDefault(name, Set.of())) {
                    boolean may = call.equals(owner + "." + name)
                            || call.startsWith("?") && !owner.equals(from.substring(0, from.indexOf('.')));
                    if (may) {
                        deepest = Math.max(deepest, depth(owner + "." + name, open));
                    }
                }
            }
            open.remove(open.size() - 1);
            return deepest + 1;
        }
    }

    /** What needs types: the library that is used, joined texts, casts; and the loops' ends. */
    private static final class Types extends TreePathScanner<Void, Void> {
        private static final Map<String, String> LIBRARY = Map.of(
                "java.lang.String", "length charAt isEmpty equals indexOf substring toCharArray",
                "java.lang.StringBuilder", "append charAt setCharAt setLength deleteCharAt reverse length toString",
                "java.util.ArrayList", "add get set remove size isEmpty clear",
                "java.util.List", "add get set remove size isEmpty clear of",
                "java.lang.Integer", "compare max min bitCount",
                "java.lang.Long", "compare max min bitCount",
                "java.lang.Math", "max min abs floorDiv floorMod",
                "java.lang.System", "arraycopy",
                "java.util.Arrays", "copyOf copyOfRange fill");
        private static final Set<String> MADE = Set.of("java.lang.String", "java.lang.StringBuilder",
                "java.util.ArrayList");
        final Trees trees;

        Types(Trees trees) {
            this.trees = trees;
        }

        String place(Tree tree) {
            CompilationUnitTree unit = getCurrentPath().getCompilationUnit();
            long line = unit.getLineMap().getLineNumber(trees.getSourcePositions().getStartPosition(unit, tree));
            return " (line " + line + ")";
        }

        TypeMirror typeOf(Tree tree) {
            return trees.getTypeMirror(new TreePath(getCurrentPath(), tree));
        }

        static String ownerOf(Element called) {
            return ((TypeElement) called.getEnclosingElement()).getQualifiedName().toString();
        }

        @Override
        public Void visitMethodInvocation(MethodInvocationTree tree, Void none) {
            Element called = trees.getElement(getCurrentPath());
            String owner = ownerOf(called);
            String name = called.getSimpleName().toString();
            boolean above = called.getKind() == ElementKind.CONSTRUCTOR;
            boolean listed = List.of(LIBRARY.getOrDefault(owner, "").split(" ")).contains(name);
            due(above || owner.startsWith("ShareLife") || listed, "the library has no " + owner + "." + name + place(tree));
            return super.visitMethodInvocation(tree, none);
        }

        @Override
        public Void visitNewClass(NewClassTree tree, Void none) {
            String made = ownerOf(trees.getElement(getCurrentPath()));
            due(made.startsWith("ShareLife") || MADE.contains(made), "the library has no new " + made + place(tree));
            return super.visitNewClass(tree, none);
        }

        @Override
        public Void visitBinary(BinaryTree tree, Void none) {
            boolean texts = (typeOf(tree.getLeftOperand()) + " " + typeOf(tree.getRightOperand())).contains("java.lang.");
            due(!texts, "no sign between texts or boxes" + place(tree));
            return super.visitBinary(tree, none);
        }

        @Override
        public Void visitCompoundAssignment(CompoundAssignmentTree tree, Void none) {
            due(typeOf(tree.getVariable()).getKind().isPrimitive(), "no joining of texts" + place(tree));
            return super.visitCompoundAssignment(tree, none);
        }

        @Override
        public Void visitTypeCast(TypeCastTree tree, Void none) {
            due(typeOf(tree.getType()).getKind().isPrimitive(), "casts are of numbers alone" + place(tree));
            return super.visitTypeCast(tree, none);
        }

        @Override
        public Void visitForLoop(ForLoopTree tree, Void none) {
            due(tree.getCondition() != null, "a loop's end can be seen" + place(tree));
            return super.visitForLoop(tree, none);
        }

        @Override
        public Void visitWhileLoop(WhileLoopTree tree, Void none) {
            due(!tree.getCondition().toString().equals("(true)"), "a loop's end can be seen" + place(tree));
            return super.visitWhileLoop(tree, none);
        }

        @Override
        public Void visitVariable(VariableTree tree, Void none) {
            Element it = trees.getElement(getCurrentPath());
            if (it.getModifiers().contains(javax.lang.model.element.Modifier.STATIC)) {
                Set<String> may = Set.of("int", "long", "boolean", "char", "java.lang.String", "int[]", "long[]", "char[]",
                        "byte[]");
                due(may.contains(it.asType().toString()) && tree.getInitializer() != null
                        && it.getModifiers().contains(javax.lang.model.element.Modifier.FINAL),
                        "static " + tree.getName() + " is a constant" + place(tree));
            }
            String type = it.asType().toString();
            due(!type.endsWith("[][]") || !type.contains("."), "two dimensions are of numbers alone" + place(tree));
            return super.visitVariable(tree, none);
        }
    }

    private static void source(String path) throws Exception {
        JavaCompiler javac = ToolProvider.getSystemJavaCompiler();
        StandardJavaFileManager files = javac.getStandardFileManager(null, null, null);
        JavacTask task = (JavacTask) javac.getTask(null, files, null, List.of("-proc:none"), null,
                files.getJavaFileObjects(new File(path)));
        Iterable<? extends CompilationUnitTree> units = task.parse();
        for (CompilationUnitTree unit : units) {
            due(unit.getPackageName() == null, "no package");
            due(unit.getTypeDecls().size() == 1, "one class at the top");
            for (Tree used : unit.getImports()) {
                String name = used.toString().trim();
                due(name.equals("import java.util.ArrayList;") || name.equals("import java.util.Arrays;"), name);
            }
            Scan scan = new Scan(unit, Trees.instance(task).getSourcePositions());
            scan.scan(unit, null);
            for (String name : FACE.split(" ")) {
                int deep = scan.depth("ShareLife." + name, new ArrayList<>());
                due(deep <= 8, name + " goes at most eight deep, not " + deep);
            }
        }
        task.analyze();
        for (CompilationUnitTree unit : units) {
            new Types(Trees.instance(task)).scan(unit, null);
        }
    }

    public static void main(String[] args) throws Exception {
        face();
        if (args.length > 0) {
            source(args[0]);
        }
        due(args.length > 0, "a source to look at");
        System.out.println(wrong == 0 ? "the language is kept" : wrong + " rules are not kept");
        if (wrong != 0) {
            System.exit(1);
        }
    }
}
