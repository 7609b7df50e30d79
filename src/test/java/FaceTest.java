import java.io.IOException;
import java.lang.reflect.Constructor;
import java.lang.reflect.Field;
import java.lang.reflect.Method;
import java.lang.reflect.Modifier;
import java.nio.file.Files;
import java.nio.file.Path;
import java.util.ArrayList;
import java.util.Arrays;
import java.util.List;
import java.util.Set;
import java.util.TreeSet;
import java.util.regex.Pattern;

/** The public face of the document, and those rules of LANGUAGE.md that a program can look at. */
public final class FaceTest {
    private static final Due due = new Due("FaceTest");
    private static final String BOUNDS = " IndexOutOfBoundsException", ARGUMENT = " IllegalArgumentException",
            STATE = " IllegalStateException";

    private static final String[] FACE = {
        "int lane(int, int, int)" + BOUNDS + ARGUMENT + STATE,
        "int line(int, int)" + BOUNDS + ARGUMENT + STATE,
        "int stop(int, int)" + BOUNDS + ARGUMENT + STATE,
        "int way(int, int)" + BOUNDS,
        "boolean isClosed(int)" + BOUNDS,
        "int detour(int)" + BOUNDS,
        "long minutes(int)" + BOUNDS,
        "long minutesAnew(int)" + BOUNDS,
        "int apply(int, int, int, int, int, boolean)" + BOUNDS + ARGUMENT + STATE,
        "int withdraw(int)" + BOUNDS + STATE,
        "int begin(int)" + BOUNDS + STATE,
        "long finish(int)" + BOUNDS + STATE,
        "int state(int)" + BOUNDS,
        "int cause(int)" + BOUNDS,
        "int from(int)" + BOUNDS,
        "int end(int)" + BOUNDS,
        "long together(int)" + BOUNDS,
        "int openings(int, int)" + BOUNDS + ARGUMENT,
        "int fee(int)" + BOUNDS,
        "int pass(int)" + ARGUMENT + STATE,
        "int complain(int)" + BOUNDS,
        "int points(int)" + BOUNDS,
        "long fine(int)" + BOUNDS,
        "long fines(int)" + BOUNDS,
    };

    private static final String[] CONSTANTS = {
        "NONE=-1", "GRANTED=0", "REFUSED=1", "OPEN=2", "DONE=3", "VOID=4", "LATE=0", "CHAIN=1", "LONG=2", "TWICE=3",
    };

    /** What LANGUAGE.md leaves out, as it would stand in the text. */
    private static final String[] RULED_OUT = {
        "->", "::", "\\bfinally\\b", "\\bsynchronized\\b", "\\bassert\\b", "Exact\\b", "\\bSystem\\.out\\b",
        "\\bRandom\\b", "\\bThread\\b", "\\bcurrentTimeMillis\\b", "\\bnanoTime\\b", "\\bboolean equals\\b", "\\bhashCode\\b",
        "\\bString toString\\b", "\\bOptional\\b", "\\bStream\\b", "\\bMap\\b", "\\bSet\\b", "\\bpackage\\b", "%\\s*0\\b",
        "\\bstatic\\s*\\{", "\\bObject\\b", "\\bvar\\b", "[^\\x00-\\x7f]", "\\+\\s*\"", "\"\\s*\\+",
    };

    private static final Set<String> IMPORTS = Set.of("import java.util.ArrayList;", "import java.util.Arrays;",
            "import java.util.Iterator;", "import java.util.List;", "import java.util.NoSuchElementException;");

    private static void publicFace() {
        Class<?> face = PermitWeave.class;
        due.is("public and final", Modifier.isPublic(face.getModifiers()) && Modifier.isFinal(face.getModifiers()), true);
        due.is("the class above", face.getSuperclass().getSimpleName() + face.getInterfaces().length, "Object0");
        Set<String> methods = new TreeSet<>();
        for (Method method : face.getDeclaredMethods()) {
            if (Modifier.isPublic(method.getModifiers())) {
                methods.add(told(method));
            }
        }
        due.is("methods", methods.toString(), new TreeSet<>(Arrays.asList(FACE)).toString());
        Constructor<?>[] constructors = face.getDeclaredConstructors();
        due.is("constructors", constructors.length, 1);
        due.is("is public, without parameters", constructors[0].toString(), "public PermitWeave()");
    }

    private static String told(Method method) {
        StringBuilder text = new StringBuilder(method.getReturnType().getName()).append(' ').append(method.getName());
        String parameters = Arrays.toString(method.getParameterTypes());
        text.append('(').append(parameters, 1, parameters.length() - 1).append(')');
        for (Class<?> thrown : method.getExceptionTypes()) {
            text.append(' ').append(thrown.getSimpleName());
        }
        return text.toString();
    }

    private static void constants() throws IllegalAccessException {
        List<String> constants = new ArrayList<>();
        for (Field field : PermitWeave.class.getDeclaredFields()) {
            int modifiers = field.getModifiers();
            if (!Modifier.isPrivate(modifiers)) {
                due.is(field + " is a constant", modifiers, Modifier.PUBLIC | Modifier.STATIC | Modifier.FINAL);
                constants.add(field.getName() + "=" + field.getInt(null));
            }
        }
        due.is("constants", constants.toString(), Arrays.toString(CONSTANTS));
    }

    private static void nothingElseIsSeen() {
        Class<?> face = PermitWeave.class;
        Set<String> publicNames = new TreeSet<>();
        for (Method method : face.getDeclaredMethods()) {
            if (Modifier.isPublic(method.getModifiers())) {
                publicNames.add(method.getName());
            }
        }
        List<Class<?>> classes = new ArrayList<>(Arrays.asList(face.getDeclaredClasses()));
        due.is("some twelve classes at most", classes.size() <= 12, true);
        for (Class<?> inside : classes) {
            due.is(inside + " is static", Modifier.isStatic(inside.getModifiers()), true);
            due.is(inside + " is hidden", Modifier.isPublic(inside.getModifiers()), false);
            membersOf(inside, publicNames);
        }
        membersOf(face, publicNames);
    }

    private static void membersOf(Class<?> one, Set<String> publicNames) {
        int ownFields = 0;
        for (Field field : one.getDeclaredFields()) {
            boolean isStatic = Modifier.isStatic(field.getModifiers());
            due.is(field + " is no static state", !isStatic || Modifier.isFinal(field.getModifiers()), true);
            ownFields += isStatic ? 0 : 1;
        }
        due.is(one + " has some twenty fields at most", ownFields <= 20, true);
        for (Method method : one.getDeclaredMethods()) {
            boolean isOfTheFace = one == PermitWeave.class && Modifier.isPublic(method.getModifiers());
            boolean isHidden = one != PermitWeave.class || Modifier.isPrivate(method.getModifiers());
            due.is(method + " is hidden", isOfTheFace || isHidden, true);
            due.is(method + " bears no public name", isOfTheFace || !publicNames.contains(method.getName()), true);
            due.is(method + " has at most seven parameters", method.getParameterCount() <= 7, true);
        }
    }

    private static void language() throws IOException {
        String text = Files.readString(Path.of("src/main/java/PermitWeave.java"));
        for (String ruledOut : RULED_OUT) {
            due.is("the text has " + ruledOut, Pattern.compile(ruledOut).matcher(text).find(), false);
        }
        for (String line : text.split("\n")) {
            due.is("import: " + line, !line.startsWith("import ") || IMPORTS.contains(line), true);
            due.is("a line's length: " + line, line.length() <= 120, true);
        }
    }

    public static void main(String[] args) throws IOException, IllegalAccessException {
        publicFace();
        constants();
        nothingElseIsSeen();
        language();
        due.end();
    }
}
