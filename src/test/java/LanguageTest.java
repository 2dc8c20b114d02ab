import com.sun.source.tree.ClassTree;
import com.sun.source.tree.CompilationUnitTree;
import com.sun.source.tree.ImportTree;
import com.sun.source.tree.MemberSelectTree;
import com.sun.source.tree.MethodTree;
import com.sun.source.tree.NewArrayTree;
import com.sun.source.tree.NewClassTree;
import com.sun.source.tree.Tree;
import com.sun.source.tree.VariableTree;
import com.sun.source.util.JavacTask;
import com.sun.source.util.SourcePositions;
import com.sun.source.util.TreeScanner;
import com.sun.source.util.Trees;
import java.io.IOException;
import java.lang.reflect.Constructor;
import java.lang.reflect.Field;
import java.lang.reflect.Method;
import java.lang.reflect.Modifier;
import java.nio.file.Files;
import java.nio.file.Path;
import java.util.EnumSet;
import java.util.HashSet;
import java.util.List;
import java.util.Set;
import java.util.TreeSet;
import javax.tools.JavaCompiler;
import javax.tools.StandardJavaFileManager;
import javax.tools.ToolProvider;

/** What of LANGUAGE.md can be seen from the source; args[0] is its path. */
public final class LanguageTest {
    private static final Check CHECK = new Check("language");
    private static final List<String> FACE = List.of("row 3", "set 3", "copy 5", "drop 1", "feed 1", "hedge 0",
        "fault 0", "asks 2", "follows 1", "waits 1", "undo 0", "word 2", "traveller 2", "can 1", "soon 1", "plan 1",
        "talk 1", "family 2", "ban 1", "who 2", "goneBy 3", "image 1", "restore 1", "kind 1", "as 2", "ask 2",
        "trace 1", "count 1", "status 0");
    private static final Set<String> LIBRARY = Set.of("System.arraycopy", "Arrays.fill", "Arrays.copyOf",
        "Arrays.copyOfRange", "List.of");
    /** Of these all static functions may be used, but for those whose name ends in Exact. */
    private static final Set<String> NUMBERS = Set.of("Math", "Integer", "Long");
    private static final Set<String> LIBRARY_CLASSES = Set.of("Math", "Integer", "Long", "System", "Arrays", "String",
        "Character", "Byte", "Short", "Boolean", "Thread", "Runtime", "Class", "Object", "Objects", "List");
    private static final Set<String> IMPORTS = Set.of("java.util.Arrays", "java.util.ArrayList", "java.util.List",
        "java.util.Iterator");
    private static final Set<String> CONSTANTS = Set.of("int", "long", "boolean", "char", "String");
    private static final Set<String> WRITTEN_OUT = Set.of("int[]", "long[]", "char[]", "byte[]");
    private static final EnumSet<Tree.Kind> FORBIDDEN = EnumSet.of(Tree.Kind.THROW, Tree.Kind.TRY,
        Tree.Kind.SYNCHRONIZED, Tree.Kind.ASSERT, Tree.Kind.LAMBDA_EXPRESSION, Tree.Kind.MEMBER_REFERENCE);

    public static void main(String[] args) throws IOException {
        Path source = Path.of(args.length > 0 ? args[0] : "src/main/java/HedgeGate.java");
        theFace();
        theMembers();
        theText(Files.readAllBytes(source));
        theTree(source);
        CHECK.end();
    }

    private static void theFace() {
        Set<String> methods = new TreeSet<>();
        for (Method m : HedgeGate.class.getDeclaredMethods()) {
            if (!Modifier.isPrivate(m.getModifiers()) && !m.isSynthetic()) {
                methods.add(m.getName() + " " + m.getParameterCount());
                CHECK.holds(m + " is public and no more", Modifier.isPublic(m.getModifiers())
                    && !Modifier.isStatic(m.getModifiers()) && m.getReturnType() == int.class);
                CHECK.holds(m + " takes ints alone", Set.of(int.class).containsAll(List.of(m.getParameterTypes())));
            }
        }
        CHECK.holds("the methods " + methods, methods.equals(new TreeSet<>(FACE)));
        Set<String> fields = new TreeSet<>();
        for (Field f : HedgeGate.class.getDeclaredFields()) {
            if (!Modifier.isPrivate(f.getModifiers())) {
                fields.add(f.getName());
            }
        }
        CHECK.holds("the constants " + fields, fields.equals(Set.of("NONE", "BAD", "STATE", "FULL")));
        Constructor<?>[] constructors = HedgeGate.class.getDeclaredConstructors();
        CHECK.due("constructors", constructors.length, 1);
        CHECK.due("numbers that a new object takes", constructors[0].getParameterCount(), 0);
        CHECK.holds("public constructor", Modifier.isPublic(constructors[0].getModifiers()));
        CHECK.holds("public class", Modifier.isPublic(HedgeGate.class.getModifiers()));
        CHECK.holds("final class", Modifier.isFinal(HedgeGate.class.getModifiers()));
        CHECK.due("NONE", HedgeGate.NONE, -1000000);
        CHECK.due("BAD", HedgeGate.BAD, -1000001);
        CHECK.due("STATE", HedgeGate.STATE, -1000002);
        CHECK.due("FULL", HedgeGate.FULL, -1000003);
    }

    private static void theMembers() {
        Set<String> faceNames = new HashSet<>();
        FACE.forEach(f -> faceNames.add(f.split(" ")[0]));
        CHECK.holds("some twelve classes at most", HedgeGate.class.getDeclaredClasses().length <= 13);
        for (Class<?> inside : HedgeGate.class.getDeclaredClasses()) {
            int m = inside.getModifiers();
            CHECK.holds(inside + " is static, and not seen",
                Modifier.isStatic(m) && !Modifier.isPublic(m) && !Modifier.isProtected(m));
            for (Method method : inside.getDeclaredMethods()) {
                CHECK.holds(method + " has a name of its own",
                    !Modifier.isPrivate(method.getModifiers()) || !faceNames.contains(method.getName()));
            }
            long own = List.of(inside.getDeclaredFields()).stream()
                .filter(f -> !Modifier.isStatic(f.getModifiers())).count();
            CHECK.holds(inside + " has some twenty fields at most", own <= 22);
        }
        for (Method method : HedgeGate.class.getDeclaredMethods()) {
            CHECK.holds(method + " has a name of its own",
                !Modifier.isPrivate(method.getModifiers()) || !faceNames.contains(method.getName()));
        }
    }

    private static void theText(byte[] bytes) {
        for (byte b : bytes) {
            if (b <= 0) {
                CHECK.holds("the source has signs 1 to 127 alone", false);
                return;
            }
        }
    }

    private static void theTree(Path source) throws IOException {
        JavaCompiler compiler = ToolProvider.getSystemJavaCompiler();
        try (StandardJavaFileManager files = compiler.getStandardFileManager(null, null, null)) {
            JavacTask task = (JavacTask) compiler.getTask(null, files, null, List.of("-proc:none"), null,
                files.getJavaFileObjects(source));
            for (CompilationUnitTree unit : task.parse()) {
                CHECK.holds("no package", unit.getPackage() == null);
                for (ImportTree i : unit.getImports()) {
                    CHECK.holds(i + "", IMPORTS.contains(i.getQualifiedIdentifier().toString()));
                }
                new Looker(unit, Trees.instance(task).getSourcePositions()).scan(unit, null);
            }
        }
    }

    private static final class Looker extends TreeScanner<Void, Void> {
        private final CompilationUnitTree unit;
        private final SourcePositions positions;

        Looker(CompilationUnitTree unit, SourcePositions positions) {
            this.unit = unit;
            this.positions = positions;
        }

        private long line(long position) {
            return unit.getLineMap().getLineNumber(position);
        }

        @Override public Void scan(Tree tree, Void nothing) {
            if (tree != null) {
                String where = "line " + line(Math.max(0, positions.getStartPosition(unit, tree)));
                CHECK.holds(tree.getKind() + ", " + where, !FORBIDDEN.contains(tree.getKind()));
            }
            return super.scan(tree, nothing);
        }

        @Override public Void visitMethod(MethodTree method, Void nothing) {
            long lines = line(positions.getEndPosition(unit, method)) - line(positions.getStartPosition(unit, method));
            CHECK.holds(method.getName() + " is short", lines < 65);
            CHECK.holds(method.getName() + " takes at most seven", method.getParameters().size() <= 7);
            CHECK.holds(method.getName() + " throws nothing", method.getThrows().isEmpty());
            return super.visitMethod(method, nothing);
        }

        @Override public Void visitClass(ClassTree inside, Void nothing) {
            for (Tree member : inside.getMembers()) {
                CHECK.holds("no block in " + inside.getSimpleName(), member.getKind() != Tree.Kind.BLOCK);
                if (member instanceof VariableTree field) {
                    theField(field);
                }
            }
            return super.visitClass(inside, nothing);
        }

        /** The parser makes static fields of an enum's constants, each with an object of the enum. */
        private static boolean isConstantOfAnEnum(VariableTree field) {
            return field.getInitializer() instanceof NewClassTree made
                && made.getIdentifier().toString().equals(field.getType().toString());
        }

        private void theField(VariableTree field) {
            var flags = field.getModifiers().getFlags();
            if (!flags.contains(javax.lang.model.element.Modifier.STATIC)) {
                return;
            }
            String type = field.getType().toString();
            boolean written = field.getInitializer() instanceof NewArrayTree array && array.getInitializers() != null;
            boolean ofAnEnum = isConstantOfAnEnum(field) || String.valueOf(field.getInitializer()).endsWith("values()");
            CHECK.holds(field + " is final", flags.contains(javax.lang.model.element.Modifier.FINAL));
            CHECK.holds(field + " is a constant",
                CONSTANTS.contains(type) || WRITTEN_OUT.contains(type) && written || ofAnEnum);
        }

        @Override public Void visitMemberSelect(MemberSelectTree select, Void nothing) {
            if (LIBRARY_CLASSES.contains(select.getExpression().toString())) {
                boolean ofNumbers = NUMBERS.contains(select.getExpression().toString())
                    && !select.getIdentifier().toString().endsWith("Exact");
                CHECK.holds(select + " is in the library", ofNumbers || LIBRARY.contains(select.toString()));
            }
            return super.visitMemberSelect(select, nothing);
        }
    }
}
