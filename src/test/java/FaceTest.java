import java.io.IOException;
import java.lang.reflect.Constructor;
import java.lang.reflect.Field;
import java.lang.reflect.Method;
import java.lang.reflect.Modifier;
import java.nio.file.Files;
import java.nio.file.Path;
import java.util.Arrays;
import java.util.TreeSet;
import java.util.stream.Collectors;

/** The public face is the document's, and the source holds nothing that the language's rules leave out. */
public final class FaceTest {
    private static final Check check = new Check();

    private static final String MAKES = " throws IllegalArgumentException,IllegalStateException";

    private static final String[] FACE = {
        "int builtin(int)" + MAKES, "int name(int)" + MAKES, "int member(int,int)" + MAKES, "int fill(int,int,int,int)" + MAKES,
        "int wrap(int,int)" + MAKES, "int array(int,int)" + MAKES, "int function(int,int,int,int)" + MAKES,
        "int literal(int,int)" + MAKES, "int entity(int,int,int,int,int)" + MAKES, "int of(int,int)",
        "int write(int) throws IllegalArgumentException,UnsupportedOperationException", "boolean type(long)", "void wipe()",
        "int text(int)", "int read()" + MAKES, "int table(int)", "int look(int)",
    };

    /** What no program within the rules of the language has outside comments and texts. */
    private static final String[] LEFT_OUT = {
        "package ", "finally", "synchronized", "assert ", "::", "Character.", "Objects.", "Exact(", "System.out", "System.err",
        "currentTimeMillis", "nanoTime", "Random", "Thread", "static {", "Math.sqrt", "getMessage", "catch (Throwable",
        "catch (Exception", "catch (ArrayIndex", "catch (NullPointer", "catch (ClassCast", "catch (NegativeArray",
        "catch (ArrayStore",
    };

    public static void main(String[] args) throws IOException {
        methods();
        otherMembers();
        source();
        check.end();
    }

    private static void methods() {
        TreeSet<String> names = new TreeSet<>();
        TreeSet<String> open = new TreeSet<>();
        for (Method method : NameWriter.class.getDeclaredMethods()) {
            if (!Modifier.isPrivate(method.getModifiers())) {
                check.same(method + " is public", Modifier.isPublic(method.getModifiers()), true);
                open.add(told(method));
                names.add(method.getName());
            }
        }
        check.same("methods", open, new TreeSet<>(Arrays.asList(FACE)));
        for (Class<?> inner : NameWriter.class.getDeclaredClasses()) {
            check.same(inner + " is static", Modifier.isStatic(inner.getModifiers()), true);
            privateNames(inner, names);
        }
        privateNames(NameWriter.class, names);
    }

    private static String told(Method method) {
        String thrown = names(method.getExceptionTypes());
        return method.getReturnType() + " " + method.getName() + "(" + names(method.getParameterTypes()) + ")"
            + (thrown.isEmpty() ? "" : " throws " + thrown);
    }

    private static String names(Class<?>[] types) {
        return Arrays.stream(types).map(Class::getSimpleName).collect(Collectors.joining(","));
    }

    private static void privateNames(Class<?> owner, TreeSet<String> names) {
        for (Method method : owner.getDeclaredMethods()) {
            boolean isPrivate = Modifier.isPrivate(method.getModifiers());
            check.same(method + " has a name of its own", isPrivate && names.contains(method.getName()), false);
            check.same(method + " takes at most seven", method.getParameterCount() <= 7, true);
        }
    }

    private static void otherMembers() {
        check.same("final", Modifier.isFinal(NameWriter.class.getModifiers()), true);
        check.same("public", Modifier.isPublic(NameWriter.class.getModifiers()), true);
        Constructor<?>[] constructors = NameWriter.class.getDeclaredConstructors();
        check.answers("constructors", 1, () -> constructors.length);
        check.answers("what it takes", 0, () -> constructors[0].getParameterCount());
        for (Field field : NameWriter.class.getDeclaredFields()) {
            boolean isPrivate = Modifier.isPrivate(field.getModifiers());
            check.same(field + " is private", isPrivate, !field.getName().equals("NONE"));
            if (field.getName().equals("NONE")) {
                check.same("the constant", field.toString(), "public static final int NameWriter.NONE");
            }
        }
        check.same("the constructor", constructors[0].toString(), "public NameWriter()");
    }

    private static void source() throws IOException {
        String source = Files.readString(Path.of("src/main/java/NameWriter.java"))
            .replaceAll("(?s)/\\*.*?\\*/", "").replaceAll("//.*", "").replaceAll("\"[^\"\n]*\"", "\"\"");
        for (String piece : LEFT_OUT) {
            check.same("the source has " + piece, source.contains(piece), false);
        }
    }
}
