import com.sun.source.tree.ClassTree;
import com.sun.source.tree.CompilationUnitTree;
import com.sun.source.tree.MethodInvocationTree;
import com.sun.source.tree.MethodTree;
import com.sun.source.tree.NewClassTree;
import com.sun.source.tree.Tree;
import com.sun.source.tree.VariableTree;
import com.sun.source.util.JavacTask;
import com.sun.source.util.TreePath;
import com.sun.source.util.TreePathScanner;
import com.sun.source.util.Trees;
import java.io.File;
import java.io.IOException;
import java.util.ArrayList;
import java.util.EnumSet;
import java.util.HashMap;
import java.util.HashSet;
import java.util.List;
import java.util.Map;
import java.util.Set;
import javax.lang.model.element.Element;
import javax.lang.model.element.ExecutableElement;
import javax.lang.model.element.Modifier;
import javax.tools.JavaCompiler;
import javax.tools.StandardJavaFileManager;
import javax.tools.ToolProvider;

/** The rules of LANGUAGE.md that can be looked up in the source, and the public face. */
public final class LanguageTest {
    private static final String SOURCE = "src/main/java/ThreeMagnets.java";
    private static final String FACE = "magnet4 magnetIs2 as2 shift4 takeOff0 rule2 nearest3 feed2 text1 untell1 let2 push2 tick1 bob1 "
            + "ends4 length2 doubt2 holds2 picture4 cell2 share1 edge2 seen1 sure3 turned1 fair1 want1 throwsOf4 thrownAt1 seed1 "
            + "voice3 body1 sheet3 put3 move5 magnets1 image0 restore0 tell1 check1 count1 told1";
    private static final Set<Tree.Kind> FORBIDDEN = EnumSet.of(Tree.Kind.LAMBDA_EXPRESSION, Tree.Kind.MEMBER_REFERENCE,
            Tree.Kind.THROW, Tree.Kind.TRY, Tree.Kind.SYNCHRONIZED, Tree.Kind.ASSERT, Tree.Kind.SWITCH_EXPRESSION,
            Tree.Kind.INSTANCE_OF, Tree.Kind.ANNOTATION, Tree.Kind.IMPORT, Tree.Kind.PACKAGE);
    private static final Set<String> LIBRARY = Set.of("abs", "min", "max", "indexOf", "arraycopy", "clone");
    private static final Due due = new Due();

    private static final Set<String> facePresent = new HashSet<>();
    private static final Set<String> otherNames = new HashSet<>();
    private static final Map<ExecutableElement, Set<ExecutableElement>> calls = new HashMap<>();
    private static int classes = 0;
    private static Trees trees;
    private static CompilationUnitTree unit;

    public static void main(String[] args) throws IOException {
        JavaCompiler compiler = ToolProvider.getSystemJavaCompiler();
        try (StandardJavaFileManager files = compiler.getStandardFileManager(null, null, null)) {
            JavacTask task = (JavacTask) compiler.getTask(null, files, null, List.of("-proc:none"), null,
                    files.getJavaFileObjects(new File(SOURCE)));
            unit = task.parse().iterator().next();
            task.analyze();
            trees = Trees.instance(task);
            due.is("one class in the file", unit.getTypeDecls().size(), 1);
            new Look().scan(unit, null);
        }
        lookAtFace();
        lookAtDepth();
        due.end("LanguageTest");
    }

    private static final class Look extends TreePathScanner<Void, Void> {
        @Override
        public Void scan(Tree tree, Void nothing) {
            if (tree != null && FORBIDDEN.contains(tree.getKind())) {
                due.isTrue("no " + tree.getKind() + " at line " + line(tree), false);
            }
            return super.scan(tree, nothing);
        }

        @Override
        public Void visitClass(ClassTree tree, Void nothing) {
            classes++;
            boolean outer = getCurrentPath().getParentPath().getLeaf() == unit;
            Set<Modifier> flags = tree.getModifiers().getFlags();
            due.isTrue(tree.getSimpleName() + " is static or the face", outer ? flags.contains(Modifier.PUBLIC) && flags.contains(Modifier.FINAL)
                    : flags.contains(Modifier.STATIC) && flags.contains(Modifier.PRIVATE));
            int fields = 0;
            for (Tree member : tree.getMembers()) {
                if (member instanceof VariableTree) {
                    fields += isField((VariableTree) member, outer) ? 1 : 0;
                }
            }
            due.isTrue(tree.getSimpleName() + " has up to 20 fields", fields <= 20);
            return super.visitClass(tree, nothing);
        }

        private boolean isField(VariableTree field, boolean outer) {
            Set<Modifier> flags = field.getModifiers().getFlags();
            due.isTrue(field.getName() + " is final, if static", !flags.contains(Modifier.STATIC) || flags.contains(Modifier.FINAL));
            due.isTrue(field.getName() + " is private in the face", !outer || flags.contains(Modifier.PRIVATE));
            return !flags.contains(Modifier.STATIC);
        }

        @Override
        public Void visitMethod(MethodTree tree, Void nothing) {
            String name = tree.getName().toString();
            ClassTree owner = (ClassTree) getCurrentPath().getParentPath().getLeaf();
            boolean outer = owner.getSimpleName().contentEquals("ThreeMagnets");
            boolean open = tree.getModifiers().getFlags().contains(Modifier.PUBLIC);
            due.isTrue(name + " takes up to seven parameters", tree.getParameters().size() <= 7);
            due.isTrue(name + " is short", lastLine(tree) - line(tree) < 60);
            if (!name.equals("<init>")) {
                if (outer && open) {
                    facePresent.add(name + tree.getParameters().size());
                } else {
                    due.isTrue(name + " is private or in a class inside", !open && (!outer || tree.getModifiers().getFlags().contains(Modifier.PRIVATE)));
                    otherNames.add(name);
                }
            }
            calls.putIfAbsent((ExecutableElement) trees.getElement(getCurrentPath()), new HashSet<>());
            return super.visitMethod(tree, nothing);
        }

        @Override
        public Void visitMethodInvocation(MethodInvocationTree tree, Void nothing) {
            note((ExecutableElement) trees.getElement(new TreePath(getCurrentPath(), tree.getMethodSelect())), tree);
            return super.visitMethodInvocation(tree, nothing);
        }

        @Override
        public Void visitNewClass(NewClassTree tree, Void nothing) {
            due.isTrue("no anonymous class at line " + line(tree), tree.getClassBody() == null);
            due.isTrue("objects are made by constructors alone, line " + line(tree), !isInMethod());
            return super.visitNewClass(tree, nothing);
        }

        private boolean isInMethod() {
            for (Tree at : getCurrentPath()) {
                if (at instanceof MethodTree && !((MethodTree) at).getName().contentEquals("<init>")) {
                    return true;
                }
            }
            return false;
        }

        private void note(ExecutableElement called, Tree tree) {
            String owner = called.getEnclosingElement().toString();
            if (!owner.startsWith("ThreeMagnets")) {
                due.isTrue(called + " is in the list of the library, line " + line(tree),
                        LIBRARY.contains(called.getSimpleName().toString()) || called.getSimpleName().contentEquals("<init>"));
                return;
            }
            for (Tree at : getCurrentPath()) {
                if (at instanceof MethodTree) {
                    Element caller = trees.getElement(trees.getPath(unit, at));
                    calls.computeIfAbsent((ExecutableElement) caller, k -> new HashSet<>()).add(called);
                    return;
                }
            }
        }
    }

    private static long line(Tree tree) {
        return unit.getLineMap().getLineNumber(trees.getSourcePositions().getStartPosition(unit, tree));
    }

    private static long lastLine(Tree tree) {
        return unit.getLineMap().getLineNumber(Math.max(0, trees.getSourcePositions().getEndPosition(unit, tree)));
    }

    private static void lookAtFace() {
        due.isTrue("up to twelve classes, there are " + classes, classes <= 12);
        Set<String> face = new HashSet<>(List.of(FACE.split(" ")));
        due.isTrue("the face is " + facePresent, face.equals(facePresent));
        for (String call : face) {
            String name = call.substring(0, call.length() - 1);
            due.isTrue("only the face has a " + name, !otherNames.contains(name));
        }
    }

    /** Calls open at once below a call of the face, but for those that call themselves. */
    private static void lookAtDepth() {
        for (ExecutableElement call : calls.keySet()) {
            if (call.getModifiers().contains(Modifier.PUBLIC)) {
                List<String> way = deepest(call, new ArrayList<>());
                due.isTrue("eight deep at most: " + way, way.size() <= 8);
            }
        }
    }

    private static List<String> deepest(ExecutableElement from, List<ExecutableElement> open) {
        List<String> best = new ArrayList<>();
        open.add(from);
        for (ExecutableElement called : calls.getOrDefault(from, Set.of())) {
            if (!open.contains(called)) {
                List<String> way = isRecursive(called) ? List.of() : deepest(called, open);
                if (way.size() > best.size()) {
                    best = way;
                }
            }
        }
        open.remove(open.size() - 1);
        best.add(0, from.getSimpleName().toString());
        return best;
    }

    private static boolean isRecursive(ExecutableElement method) {
        Set<ExecutableElement> reached = new HashSet<>();
        List<ExecutableElement> next = new ArrayList<>(calls.getOrDefault(method, Set.of()));
        while (!next.isEmpty()) {
            ExecutableElement one = next.remove(next.size() - 1);
            if (reached.add(one)) {
                next.addAll(calls.getOrDefault(one, Set.of()));
            }
        }
        return reached.contains(method);
    }
}
