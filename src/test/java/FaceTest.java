import java.lang.reflect.Constructor;
import java.lang.reflect.Field;
import java.lang.reflect.Method;
import java.lang.reflect.Modifier;
import java.nio.charset.StandardCharsets;
import java.nio.file.Files;
import java.nio.file.Path;
import java.util.Arrays;
import java.util.TreeSet;

/** The public face is the document's, member for member; and the source keeps to what of LANGUAGE.md a plain look can tell. */
public final class FaceTest {
    private static final String[] FACE = {
        "boolean alike(int,int) IndexOutOfBoundsException",
        "float meanSteps()",
        "int append(int,int,int,int,int)",
        "int common(int,int) IndexOutOfBoundsException",
        "int drop(int) IndexOutOfBoundsException IllegalStateException",
        "int errorOffset()",
        "int find(int,int) IndexOutOfBoundsException",
        "int first(int) IndexOutOfBoundsException NoSuchElementException",
        "int gap()",
        "int idleIn(int) IndexOutOfBoundsException",
        "int load(int) IllegalArgumentException",
        "int pop(int) IndexOutOfBoundsException IllegalStateException",
        "int push(int,int) IndexOutOfBoundsException IllegalArgumentException IllegalStateException",
        "int ranked(int) NoSuchElementException",
        "int rule(int) IllegalArgumentException",
        "int state(int) IllegalArgumentException",
        "int undo()",
        "int value(int,int,int) IndexOutOfBoundsException IllegalArgumentException",
        "int version(int,int) IndexOutOfBoundsException IllegalArgumentException",
        "int work(int,int) IndexOutOfBoundsException IllegalArgumentException",
        "long checksum()",
    };
    private static final String[] CONSTANTS = {"EMPTY=-5", "OUT_OF_RANGE=-3", "SYNTAX_ERROR=-2", "TOO_MANY=-4"};
    private static final String[] FORBIDDEN = {
        "catch", "finally", "synchronized", "assert", "instanceof", "->", "::", "System.out", "System.nano",
        "System.current", "Random", "Exact(", "hashCode", "toString", "protected", "static {", "package ",
    };
    private static int wrong = 0;

    private static void due(String what, Object got, Object want) {
        if (!got.equals(want)) {
            wrong++;
            System.out.println(what + "\n  is  " + got + "\n  due " + want);
        }
    }

    private static String told(Method method) {
        StringBuilder text = new StringBuilder(method.getReturnType().getSimpleName());
        text.append(' ').append(method.getName()).append('(');
        for (int i = 0; i < method.getParameterCount(); i++) {
            text.append(i == 0 ? "" : ",").append(method.getParameterTypes()[i].getSimpleName());
        }
        text.append(')');
        for (Class<?> thrown : method.getExceptionTypes()) {
            text.append(' ').append(thrown.getSimpleName());
        }
        return text.toString();
    }

    private static void members() throws ReflectiveOperationException {
        TreeSet<String> methods = new TreeSet<>();
        TreeSet<String> names = new TreeSet<>();
        for (Method method : SteadyQueues.class.getDeclaredMethods()) {
            if (!Modifier.isPrivate(method.getModifiers())) {
                due(method + " is public", Modifier.isPublic(method.getModifiers()), true);
                due(method + " is static", Modifier.isStatic(method.getModifiers()), false);
                methods.add(told(method));
                names.add(method.getName());
            }
        }
        due("the methods", methods, new TreeSet<>(Arrays.asList(FACE)));
        TreeSet<String> constants = new TreeSet<>();
        for (Field field : SteadyQueues.class.getDeclaredFields()) {
            if (!Modifier.isPrivate(field.getModifiers())) {
                due(field + " is a constant", field.getModifiers(), Modifier.PUBLIC | Modifier.STATIC | Modifier.FINAL);
                constants.add(field.getName() + "=" + field.getInt(null));
            }
            due(field + " is final if it is static",
                !Modifier.isStatic(field.getModifiers()) || Modifier.isFinal(field.getModifiers()), true);
        }
        due("the constants", constants, new TreeSet<>(Arrays.asList(CONSTANTS)));
        Constructor<?>[] made = SteadyQueues.class.getDeclaredConstructors();
        due("the constructors", made.length, 1);
        due("the constructor's parameters", made[0].getParameterCount(), 0);
        due("the constructor is public", made[0].getModifiers(), Modifier.PUBLIC);
        due("the class", SteadyQueues.class.getModifiers(), Modifier.PUBLIC | Modifier.FINAL);
        insideClasses(names);
    }

    private static void insideClasses(TreeSet<String> names) {
        Class<?>[] inside = SteadyQueues.class.getDeclaredClasses();
        due("at most twelve classes", inside.length < 12, true);
        for (Class<?> one : inside) {
            due(one + " is static", Modifier.isStatic(one.getModifiers()), true);
            due(one + " is not for others", Modifier.isPublic(one.getModifiers()), false);
        }
        for (Method method : SteadyQueues.class.getDeclaredMethods()) {
            if (Modifier.isPrivate(method.getModifiers())) {
                due(method + " has a name of its own", names.contains(method.getName()), false);
            }
        }
    }

    private static void source() throws java.io.IOException {
        Path path = Path.of("src/main/java/SteadyQueues.java");
        String text = Files.readString(path, StandardCharsets.ISO_8859_1);
        for (String word : FORBIDDEN) {
            due("the source has " + word, text.contains(word), false);
        }
        int imports = 0;
        for (String line : text.split("\n")) {
            if (line.startsWith("import ")) {
                imports++;
                due("the import", line, "import java.util.NoSuchElementException;");
            }
        }
        due("imports", imports, 1);
        due("signs above 126", text.chars().anyMatch(sign -> sign > 126), false);
    }

    public static void main(String[] args) throws Exception {
        members();
        source();
        System.out.println(wrong == 0 ? "the face is as due" : wrong + " faults");
        if (wrong != 0) {
            System.exit(1);
        }
    }
}
