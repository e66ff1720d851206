import com.sun.source.tree.ClassTree;
import com.sun.source.tree.CompilationUnitTree;
import com.sun.source.tree.IdentifierTree;
import com.sun.source.tree.MemberSelectTree;
import com.sun.source.tree.MethodInvocationTree;
import com.sun.source.tree.MethodTree;
import com.sun.source.tree.NewClassTree;
import com.sun.source.tree.ThrowTree;
import com.sun.source.tree.Tree;
import com.sun.source.tree.VariableTree;
import com.sun.source.util.JavacTask;
import com.sun.source.util.TreeScanner;
import com.sun.source.util.Trees;
import java.io.IOException;
import java.lang.reflect.Constructor;
import java.lang.reflect.Field;
import java.lang.reflect.Member;
import java.lang.reflect.Method;
import java.lang.reflect.Modifier;
import java.nio.file.Path;
import java.util.ArrayList;
import java.util.EnumSet;
import java.util.List;
import java.util.Map;
import java.util.Set;
import java.util.TreeMap;
import java.util.TreeSet;
import javax.tools.JavaCompiler;
import javax.tools.StandardJavaFileManager;
import javax.tools.ToolProvider;

/** The face of the document, and what the source shows of the rules of ../shared/LANGUAGE.md. */
public final class RulesTest extends TreeScanner<Void, Void> {
    private static final Set<String> FACE = Set.of(
        "int part(long,long,int,int,int,int) IllegalArgumentException,IllegalStateException",
        "int units(int,int,int) IllegalArgumentException,IllegalStateException",
        "int event(int,int,int,long,int) IllegalArgumentException,IllegalStateException",
        "boolean strike(int) ",
        "int told(int,int) ",
        "long value(int,int,int) IllegalArgumentException",
        "long charge(int,int) IllegalArgumentException",
        "long without(int,int) IllegalArgumentException",
        "long post() IllegalStateException",
        "int months() ",
        "long posted(int,int) IllegalArgumentException",
        "long total(int) IllegalArgumentException",
        "int parts() ");
    private static final Set<Tree.Kind> LEFT_OUT = EnumSet.of(Tree.Kind.IMPORT, Tree.Kind.PACKAGE,
        Tree.Kind.LAMBDA_EXPRESSION, Tree.Kind.MEMBER_REFERENCE, Tree.Kind.TRY, Tree.Kind.SYNCHRONIZED,
        Tree.Kind.ASSERT, Tree.Kind.ANNOTATION, Tree.Kind.SWITCH_EXPRESSION, Tree.Kind.INSTANCE_OF,
        Tree.Kind.TYPE_CAST, Tree.Kind.FLOAT_LITERAL, Tree.Kind.DOUBLE_LITERAL);
    private static final Set<String> LIBRARY = Set.of("Math.max", "Math.min");
    private static final Set<String> EXCEPTIONS = Set.of("IllegalArgumentException", "IllegalStateException");

    private static final Check check = new Check("RulesTest");

    private final CompilationUnitTree unit;
    private final Trees trees;
    private final Set<String> publicNames = new TreeSet<>();
    private final Set<String> ownMethods = new TreeSet<>();
    private final Set<String> ownClasses = new TreeSet<>();
    private final Map<String, Set<String>> callsOf = new TreeMap<>();
    private String method = "";

    private RulesTest(CompilationUnitTree unit, Trees trees) {
        this.unit = unit;
        this.trees = trees;
    }

    public static void main(String[] args) throws IOException {
        face();
        source(Path.of(System.getProperty("program", "src/main/java/AgedAssets.java")));
        check.end();
    }

    private static void face() {
        Class<?> face = AgedAssets.class;
        check.due("the class is public and final", Modifier.PUBLIC | Modifier.FINAL, face.getModifiers());
        Set<String> methods = new TreeSet<>();
        for (Method m : face.getDeclaredMethods()) {
            if (isSeen(m)) {
                methods.add(m.getReturnType().getSimpleName() + " " + m.getName() + "("
                    + names(m.getParameterTypes()) + ") " + names(m.getExceptionTypes()));
                check.due(m + " is public and no more", Modifier.PUBLIC, m.getModifiers());
            }
        }
        check.due("the methods are " + methods, true, methods.equals(FACE));
        for (Field f : face.getDeclaredFields()) {
            check.due("the field " + f, f.getName().equals("NONE"), isSeen(f));
        }
        Constructor<?>[] constructors = face.getDeclaredConstructors();
        check.due("one constructor", 1, constructors.length);
        check.due("which is public", Modifier.PUBLIC, constructors[0].getModifiers());
        check.due("without parameters", 0, constructors[0].getParameterCount());
        for (Class<?> inside : face.getDeclaredClasses()) {
            int seen = inside.getModifiers() & (Modifier.PUBLIC | Modifier.PROTECTED);
            check.due(inside + " is not seen", 0, seen);
            check.due(inside + " is static", true, Modifier.isStatic(inside.getModifiers()));
        }
    }

    private static boolean isSeen(Member m) {
        return !Modifier.isPrivate(m.getModifiers());
    }

    private static String names(Class<?>[] classes) {
        List<String> names = new ArrayList<>();
        for (Class<?> c : classes) {
            names.add(c.getSimpleName());
        }
        return String.join(",", names);
    }

    private static void source(Path file) throws IOException {
        JavaCompiler compiler = ToolProvider.getSystemJavaCompiler();
        try (StandardJavaFileManager files = compiler.getStandardFileManager(null, null, null)) {
            JavacTask task = (JavacTask) compiler.getTask(null, files, null, List.of("-proc:none"), null,
                files.getJavaFileObjects(file));
            for (CompilationUnitTree unit : task.parse()) {
                RulesTest rules = new RulesTest(unit, Trees.instance(task));
                new Names(rules).scan(unit, null);
                rules.scan(unit, null);
                check.due("at most twelve classes", true, rules.ownClasses.size() <= 12);
                rules.calls();
            }
        }
    }

    /** Gathers the names that the file declares, which the rules then look up. */
    private static final class Names extends TreeScanner<Void, Void> {
        private final RulesTest rules;

        Names(RulesTest rules) {
            this.rules = rules;
        }

        @Override
        public Void visitClass(ClassTree node, Void nothing) {
            rules.ownClasses.add(node.getSimpleName().toString());
            return super.visitClass(node, nothing);
        }

        @Override
        public Void visitMethod(MethodTree node, Void nothing) {
            String name = node.getName().toString();
            if (node.getModifiers().getFlags().contains(javax.lang.model.element.Modifier.PUBLIC)) {
                rules.publicNames.add(name);
            }
            boolean isNew = rules.ownMethods.add(name);
            check.due("one method alone is named " + name, true, isNew || name.equals("<init>"));
            return super.visitMethod(node, nothing);
        }
    }

    /** Names are enough to follow the calls by, as no two classes have a method of the same name. */
    private void calls() {
        for (String name : publicNames) {
            int deep = depth(name, 1);
            check.due("calls of " + name + " go at most eight deep, and none calls itself: " + deep, true, deep <= 8);
        }
    }

    private int depth(String name, int above) {
        int deepest = 1;
        if (above <= 20) {
            for (String called : callsOf.getOrDefault(name, Set.of())) {
                deepest = Math.max(deepest, 1 + depth(called, above + 1));
            }
        }
        return deepest;
    }

    private long line(long position) {
        return unit.getLineMap().getLineNumber(position);
    }

    private long lineOf(Tree node) {
        return line(trees.getSourcePositions().getStartPosition(unit, node));
    }

    @Override
    public Void scan(Tree node, Void nothing) {
        if (node != null && LEFT_OUT.contains(node.getKind())) {
            check.due("line " + lineOf(node) + ": no " + node.getKind(), false, true);
        }
        return super.scan(node, nothing);
    }

    @Override
    public Void visitClass(ClassTree node, Void nothing) {
        int fields = 0;
        for (Tree member : node.getMembers()) {
            if (member instanceof VariableTree field) {
                Set<javax.lang.model.element.Modifier> flags = field.getModifiers().getFlags();
                boolean isStatic = flags.contains(javax.lang.model.element.Modifier.STATIC);
                fields += isStatic ? 0 : 1;
                boolean isFinal = flags.contains(javax.lang.model.element.Modifier.FINAL);
                check.due("a static field is final: " + field, true, !isStatic || isFinal);
            }
            check.due("no initialiser block", false, member.getKind() == Tree.Kind.BLOCK);
        }
        check.due("some twenty fields: " + node.getSimpleName(), true, fields <= 20);
        return super.visitClass(node, nothing);
    }

    @Override
    public Void visitMethod(MethodTree node, Void nothing) {
        method = node.getName().toString();
        boolean isPublic = node.getModifiers().getFlags().contains(javax.lang.model.element.Modifier.PUBLIC);
        boolean isConstructor = method.equals("<init>");
        check.due("only a public method is named " + method, true,
            isPublic || isConstructor || !publicNames.contains(method));
        check.due("at most seven parameters: " + method, true, node.getParameters().size() <= 7);
        long end = line(trees.getSourcePositions().getEndPosition(unit, node));
        check.due("some sixty lines: " + method, true, end - lineOf(node) < 60);
        return super.visitMethod(node, nothing);
    }

    @Override
    public Void visitMethodInvocation(MethodInvocationTree node, Void nothing) {
        String called = node.getMethodSelect().toString();
        String name = called;
        if (node.getMethodSelect() instanceof MemberSelectTree select) {
            name = select.getIdentifier().toString();
        } else if (node.getMethodSelect() instanceof IdentifierTree plain) {
            name = plain.getName().toString();
        }
        check.due("what is called is its own or of the library's part: " + called, true,
            LIBRARY.contains(called) || ownMethods.contains(name) || called.equals("super"));
        check.due("no recursion: " + method, false, name.equals(method));
        callsOf.computeIfAbsent(method, none -> new TreeSet<>()).add(name);
        return super.visitMethodInvocation(node, nothing);
    }

    @Override
    public Void visitNewClass(NewClassTree node, Void nothing) {
        String made = node.getIdentifier().toString();
        check.due("what is made: " + made, true, ownClasses.contains(made) || EXCEPTIONS.contains(made));
        return super.visitNewClass(node, nothing);
    }

    @Override
    public Void visitThrow(ThrowTree node, Void nothing) {
        boolean known = node.getExpression() instanceof NewClassTree made
            && EXCEPTIONS.contains(made.getIdentifier().toString())
            && made.getArguments().size() <= 1;
        check.due("what is thrown: " + node, true, known);
        check.due("a public method throws: " + method, true, publicNames.contains(method));
        return super.visitThrow(node, nothing);
    }
}
