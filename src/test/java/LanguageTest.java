import com.sun.source.tree.AssertTree;
import com.sun.source.tree.ClassTree;
import com.sun.source.tree.CompilationUnitTree;
import com.sun.source.tree.ImportTree;
import com.sun.source.tree.LambdaExpressionTree;
import com.sun.source.tree.MemberReferenceTree;
import com.sun.source.tree.MethodInvocationTree;
import com.sun.source.tree.MethodTree;
import com.sun.source.tree.NewArrayTree;
import com.sun.source.tree.NewClassTree;
import com.sun.source.tree.SynchronizedTree;
import com.sun.source.tree.ThrowTree;
import com.sun.source.tree.Tree;
import com.sun.source.tree.TryTree;
import com.sun.source.tree.VariableTree;
import com.sun.source.util.JavacTask;
import com.sun.source.util.TreePathScanner;
import com.sun.source.util.Trees;
import java.lang.reflect.Constructor;
import java.lang.reflect.Member;
import java.lang.reflect.Method;
import java.lang.reflect.Modifier;
import java.nio.file.Path;
import java.util.ArrayList;
import java.util.HashSet;
import java.util.List;
import java.util.Map;
import java.util.Set;
import java.util.TreeMap;
import java.util.TreeSet;
import javax.lang.model.element.Element;
import javax.lang.model.element.ExecutableElement;
import javax.tools.JavaCompiler;
import javax.tools.StandardJavaFileManager;
import javax.tools.ToolProvider;

/** The document's face, and those rules of LANGUAGE.md that can be seen from the text of the program. */
public final class LanguageTest extends TreePathScanner<Void, Void> {
    private static final String FILE = "src/main/java/BridgesAreLent.java";
    private static final Set<String> LIBRARY = Set.of("Math.min", "Math.max", "Math.abs", "Integer.bitCount",
            "Integer.numberOfTrailingZeros", "System.arraycopy", "String.length", "String.charAt", "String.indexOf");
    private static final Set<String> FACE = new TreeSet<>(List.of("int sign(int)", "boolean end(int)", "int river()",
            "int bridges()", "int people()", "int rule()", "int crossing(int,int)", "int bridge(int,int)",
            "int person(int,int)", "int sheet(int,int,int,int)", "int takes(int,int)", "int tow(int,int)",
            "int lend(int,int)", "int cross(int,int)", "int hours(int)", "int day()", "int undo()", "int route(int,int)",
            "int joined(int)", "int soonest(int,int)", "int moves(int,int)", "int needed()", "int lays(int)",
            "int joins(int)", "int night()", "int errands()", "int flood(int)", "int highest()", "int worst(int)",
            "int drift(int,int,int,int)", "int seek(int,int,int)", "int found(int,int,int)", "int forget()",
            "int stolen()", "int ask()", "int share(int,int,int,int)", "int turn(int,int,int)", "int rests(int)",
            "int home()", "int years(int,int)", "boolean keep(int)", "boolean again(int)", "int count(int)",
            "long row(int)"));

    private final Trees trees;
    private final CompilationUnitTree unit;
    private final Map<String, Set<String>> calls = new TreeMap<>();
    private final Set<String> faceNames = new HashSet<>();
    private int classes;

    private LanguageTest(Trees trees, CompilationUnitTree unit) {
        this.trees = trees;
        this.unit = unit;
        for (String call : FACE) {
            faceNames.add(call.substring(call.indexOf(' ') + 1, call.indexOf('(')));
        }
    }

    public static void main(String[] args) throws Exception {
        face();
        JavaCompiler compiler = ToolProvider.getSystemJavaCompiler();
        try (StandardJavaFileManager files = compiler.getStandardFileManager(null, null, null)) {
            JavacTask task = (JavacTask) compiler.getTask(null, files, null, List.of("-proc:none"), null,
                    files.getJavaFileObjects(Path.of(FILE)));
            CompilationUnitTree unit = task.parse().iterator().next();
            task.analyze();
            LanguageTest test = new LanguageTest(Trees.instance(task), unit);
            test.file();
            test.scan(unit, null);
            Check.due("classes: at most some twelve", test.classes <= 13, true);
            test.depths();
        }
        Check.finish();
    }

    private static void face() {
        Class<?> of = BridgesAreLent.class;
        Check.due("public and final", of.getModifiers(), Modifier.PUBLIC | Modifier.FINAL);
        Set<String> shown = new TreeSet<>();
        for (Method method : of.getDeclaredMethods()) {
            if (isShown(method)) {
                List<String> types = new ArrayList<>();
                for (Class<?> type : method.getParameterTypes()) {
                    types.add(type.getName());
                }
                shown.add(method.getReturnType() + " " + method.getName() + "(" + String.join(",", types) + ")");
                Check.due(method + ": not static", Modifier.isStatic(method.getModifiers()), false);
            }
        }
        Check.due("the face", shown.toString(), FACE.toString());
        for (java.lang.reflect.Field field : of.getDeclaredFields()) {
            Check.due("shown field " + field.getName(), isShown(field), field.getName().equals("NONE"));
        }
        for (Constructor<?> made : of.getDeclaredConstructors()) {
            Check.due("constructor", Modifier.isPublic(made.getModifiers()) && made.getParameterCount() == 0, true);
        }
        for (Class<?> inside : of.getDeclaredClasses()) {
            Check.due("inside: " + inside.getName(), Modifier.isStatic(inside.getModifiers()), true);
        }
    }

    private static boolean isShown(Member member) {
        return !member.isSynthetic() && !Modifier.isPrivate(member.getModifiers());
    }

    private void file() {
        Check.due("no package", unit.getPackageName() == null, true);
        Check.due("one class in the file", unit.getTypeDecls().size(), 1);
        for (ImportTree imported : unit.getImports()) {
            Check.due("import", imported.getQualifiedIdentifier().toString(), "java.util.NoSuchElementException");
        }
    }

    private long line(long at) {
        return unit.getLineMap().getLineNumber(at);
    }

    @Override
    public Void visitClass(ClassTree tree, Void v) {
        classes++;
        int fields = 0;
        for (Tree member : tree.getMembers()) {
            if (member instanceof VariableTree field) {
                boolean isStatic = field.getModifiers().getFlags().contains(javax.lang.model.element.Modifier.STATIC);
                boolean isFinal = field.getModifiers().getFlags().contains(javax.lang.model.element.Modifier.FINAL);
                Check.due("static field " + field.getName() + " is final", !isStatic || isFinal, true);
                fields += isStatic ? 0 : 1;
            }
        }
        Check.due(tree.getSimpleName() + ": at most twenty fields", fields <= 20, true);
        return super.visitClass(tree, v);
    }

    @Override
    public Void visitMethod(MethodTree tree, Void v) {
        long first = line(trees.getSourcePositions().getStartPosition(unit, tree));
        long last = line(trees.getSourcePositions().getEndPosition(unit, tree));
        Check.due(tree.getName() + ": at most sixty lines", last - first < 60, true);
        Check.due(tree.getName() + ": at most seven parameters", tree.getParameters().size() <= 7, true);
        boolean isPublic = tree.getModifiers().getFlags().contains(javax.lang.model.element.Modifier.PUBLIC);
        Check.due(tree.getName() + ": a name of the face", !isPublic && faceNames.contains(tree.getName().toString()), false);
        return super.visitMethod(tree, v);
    }

    @Override
    public Void visitMethodInvocation(MethodInvocationTree tree, Void v) {
        Element called = trees.getElement(getCurrentPath());
        String owner = called.getEnclosingElement().toString();
        if (owner.startsWith("BridgesAreLent")) {
            calls.computeIfAbsent(caller(), key -> new TreeSet<>()).add(nameOf(called));
        } else if (!called.getSimpleName().contentEquals("<init>")) {
            String used = called.getEnclosingElement().getSimpleName() + "." + called.getSimpleName();
            Check.due("library: " + used, LIBRARY.contains(used), true);
        }
        return super.visitMethodInvocation(tree, v);
    }

    private String caller() {
        for (Tree up : getCurrentPath()) {
            if (up instanceof MethodTree) {
                return nameOf(trees.getElement(trees.getPath(unit, up)));
            }
        }
        return "a field";
    }

    private static String nameOf(Element method) {
        return method.getEnclosingElement().getSimpleName() + "." + method.getSimpleName()
                + ((ExecutableElement) method).getParameters().size();
    }

    /** Calls make nothing: all rows stand since the constructors, but for exceptions. */
    private void made(String what) {
        for (Tree up : getCurrentPath()) {
            if (up instanceof ThrowTree) {
                return;
            }
            if (up instanceof MethodTree method) {
                Check.due(method.getName() + " makes " + what, method.getReturnType() == null, true);
            }
        }
    }

    @Override
    public Void visitNewClass(NewClassTree tree, Void v) {
        made(tree.toString());
        return super.visitNewClass(tree, v);
    }

    @Override
    public Void visitNewArray(NewArrayTree tree, Void v) {
        made(tree.toString());
        return super.visitNewArray(tree, v);
    }

    @Override
    public Void visitThrow(ThrowTree tree, Void v) {
        Check.due("throw", tree.toString().startsWith("throw new NoSuchElementException(\""), true);
        return super.visitThrow(tree, v);
    }

    private void never(Tree tree) {
        Check.due("line " + line(trees.getSourcePositions().getStartPosition(unit, tree)) + " has", tree.getKind().toString(),
                "nothing such");
    }

    @Override
    public Void visitLambdaExpression(LambdaExpressionTree tree, Void v) {
        never(tree);
        return null;
    }

    @Override
    public Void visitMemberReference(MemberReferenceTree tree, Void v) {
        never(tree);
        return null;
    }

    @Override
    public Void visitTry(TryTree tree, Void v) {
        never(tree);
        return null;
    }

    @Override
    public Void visitAssert(AssertTree tree, Void v) {
        never(tree);
        return null;
    }

    @Override
    public Void visitSynchronized(SynchronizedTree tree, Void v) {
        never(tree);
        return null;
    }

    private void depths() {
        for (String call : calls.keySet()) {
            List<String> chain = longest(call, new HashSet<>());
            Check.due("calls go at most eight deep: " + chain, chain.size() <= 8, true);
        }
    }

    private List<String> longest(String from, Set<String> open) {
        List<String> best = List.of();
        open.add(from);
        for (String to : calls.getOrDefault(from, Set.of())) {
            if (!open.contains(to)) {
                List<String> chain = longest(to, open);
                best = chain.size() > best.size() ? chain : best;
            }
        }
        open.remove(from);
        List<String> all = new ArrayList<>(List.of(from));
        all.addAll(best);
        return all;
    }
}
