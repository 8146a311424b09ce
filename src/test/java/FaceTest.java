import java.lang.reflect.Constructor;
import java.lang.reflect.Field;
import java.lang.reflect.Method;
import java.lang.reflect.Modifier;
import java.nio.file.Files;
import java.nio.file.Path;
import java.util.Arrays;
import java.util.List;
import java.util.Set;
import java.util.TreeSet;

/** The public face is the document's and no more, and the source keeps off what LANGUAGE.md rules out. */
public final class FaceTest {
    private static final Expect EXPECT = new Expect("FaceTest");

    private static final Set<String> METHODS = Set.of(
            "int sectors()", "int write(int,int)", "int trim(int)", "int flush()", "void cut()",
            "boolean fuse(int)", "int read(int)", "int holds(int)", "int buffered()",
            "int place(int)", "int tag(int)", "int serial(int)", "int valid(int)",
            "int erasures(int)", "int open()", "int free()", "int operations()");
    private static final Set<String> CONSTANTS = Set.of(
            "REFUSED", "DONE", "CUT", "NONE", "NOTHING", "VALUE", "TRIMMED");
    private static final List<String> RULED_OUT = List.of(
            "import ", "package ", "->", "::", "finally", "synchronized", "assert ", "static {",
            "throw ", "try {", "float", "double", "System.", "Exact(", "toString", "hashCode");

    public static void main(String[] args) throws Exception {
        constants();
        methods();
        constructors();
        nestedClasses();
        source();
        EXPECT.finish();
    }

    private static void constants() {
        EXPECT.equal("REFUSED", WornFlash.REFUSED, -1);
        EXPECT.equal("DONE", WornFlash.DONE, 0);
        EXPECT.equal("CUT", WornFlash.CUT, 1);
        EXPECT.equal("NONE", WornFlash.NONE, -1);
        EXPECT.equal("NOTHING", WornFlash.NOTHING, 0);
        EXPECT.equal("VALUE", WornFlash.VALUE, 1);
        EXPECT.equal("TRIMMED", WornFlash.TRIMMED, 2);
        for (Field field : WornFlash.class.getDeclaredFields()) {
            int modifiers = field.getModifiers();
            boolean isConstant = CONSTANTS.contains(field.getName());
            EXPECT.equal(field + " is public", Modifier.isPublic(modifiers) ? 1 : 0, isConstant ? 1 : 0);
            EXPECT.yes(field + " is public or private", isConstant || Modifier.isPrivate(modifiers));
            EXPECT.yes(field + " is no static state", !Modifier.isStatic(modifiers) || Modifier.isFinal(modifiers));
        }
    }

    private static void methods() {
        Set<String> found = new TreeSet<>();
        for (Method method : WornFlash.class.getDeclaredMethods()) {
            if (method.isSynthetic()) {
                continue;
            }
            if (Modifier.isPrivate(method.getModifiers())) {
                boolean bearsPublicName = METHODS.stream().anyMatch(face -> face.contains(" " + method.getName() + "("));
                EXPECT.no(method + " bears the name of a public one", bearsPublicName);
            } else {
                String parameters = Arrays.stream(method.getParameterTypes()).map(Class::getName)
                        .reduce((a, b) -> a + "," + b).orElse("");
                found.add(method.getReturnType() + " " + method.getName() + "(" + parameters + ")");
                EXPECT.yes(method + " is public", Modifier.isPublic(method.getModifiers()));
            }
        }
        EXPECT.yes("the methods are " + found, found.equals(METHODS));
    }

    private static void constructors() {
        Constructor<?>[] all = WornFlash.class.getDeclaredConstructors();
        EXPECT.equal("constructors", all.length, 1);
        EXPECT.yes("it is public", Modifier.isPublic(all[0].getModifiers()));
        EXPECT.yes("it takes two ints", Arrays.equals(all[0].getParameterTypes(), new Class<?>[] {int.class, int.class}));
        EXPECT.yes("the class is final", Modifier.isFinal(WornFlash.class.getModifiers()));
    }

    private static void nestedClasses() {
        for (Class<?> inside : WornFlash.class.getDeclaredClasses()) {
            EXPECT.yes(inside + " is static", Modifier.isStatic(inside.getModifiers()));
            EXPECT.no(inside + " is public", Modifier.isPublic(inside.getModifiers()));
        }
    }

    private static void source() throws Exception {
        for (String line : Files.readAllLines(Path.of("src/main/java/WornFlash.java"))) {
            String text = line.strip();
            boolean isComment = text.startsWith("//") || text.startsWith("*") || text.startsWith("/**");
            for (String word : RULED_OUT) {
                EXPECT.no("'" + word + "' stands in: " + text, !isComment && text.contains(word));
            }
        }
    }
}
