import java.lang.reflect.Constructor;
import java.lang.reflect.Field;
import java.lang.reflect.Method;
import java.lang.reflect.Modifier;
import java.nio.file.Files;
import java.nio.file.Path;
import java.util.Arrays;
import java.util.TreeSet;

/** The face of the document, and the rules of LANGUAGE.md that can be seen from the class or its text. */
public final class FaceTest {
    private static final String[] FACE = {
        "int atom(int) IndexOutOfBoundsException IllegalStateException",
        "int constant(int) IllegalArgumentException IllegalStateException",
        "int turn(int, int) IndexOutOfBoundsException IllegalArgumentException IllegalStateException",
        "int join(int, int, int) IndexOutOfBoundsException IllegalArgumentException IllegalStateException",
        "int formulaCount()",
        "boolean isSteady(int) IndexOutOfBoundsException",
        "int report(int, int, int) IndexOutOfBoundsException IllegalArgumentException",
        "int setTrust(int, int) IndexOutOfBoundsException IllegalArgumentException",
        "int setLeastTrust(int) IllegalArgumentException",
        "boolean let(int, boolean) IndexOutOfBoundsException",
        "int setRule(int, int) IndexOutOfBoundsException IllegalArgumentException",
        "int given(int) IndexOutOfBoundsException",
        "int settled(int) IndexOutOfBoundsException",
        "int rounds()",
        "int since(int, boolean) IndexOutOfBoundsException",
        "int value(int) IndexOutOfBoundsException",
        "int conflicts()",
        "int gaps()",
        "double discord()",
        "int heard()",
        "int sayers(int, boolean) IndexOutOfBoundsException",
        "boolean matters(int, int) IndexOutOfBoundsException",
        "int silence()",
        "int contradicted(int) IndexOutOfBoundsException",
        "int setLogic(int) IllegalArgumentException",
        "int models(int) IndexOutOfBoundsException",
        "int range(int) IndexOutOfBoundsException",
        "boolean entails(int, int) IndexOutOfBoundsException",
        "int against(int, int) IndexOutOfBoundsException",
        "boolean areEqual(int, int) IndexOutOfBoundsException",
        "boolean depends(int, int) IndexOutOfBoundsException",
        "int valueAt(int, int) IndexOutOfBoundsException IllegalArgumentException",
        "long digest()",
    };
    // Words that no line of the program needs and that LANGUAGE.md leaves out.
    private static final String[] RULED_OUT = {
        "import ", "->", "::", "Exact(", "catch", "finally", "synchronized", "assert ", "package ", "Random", "System.",
        "Thread", "static {", "double[]", "Math."
    };
    private static int wrong = 0;

    public static void main(String[] args) throws Exception {
        Class<?> type = RumourReasoner.class;
        check(Modifier.isPublic(type.getModifiers()) && Modifier.isFinal(type.getModifiers()), "public and final");
        checkConstructors(type);
        checkMethods(type);
        checkFields(type);
        checkText(Path.of(args.length > 0 ? args[0] : "."));
        System.out.println(wrong == 0 ? "FaceTest: the face is as due" : "FaceTest: " + wrong + " wrong");
        if (wrong != 0) {
            System.exit(1);
        }
    }

    private static void check(boolean isGood, String what) {
        if (!isGood) {
            wrong++;
            System.out.println("not so: " + what);
        }
    }

    private static void checkConstructors(Class<?> type) {
        Constructor<?>[] all = type.getDeclaredConstructors();
        check(all.length == 1, "one constructor");
        check(Modifier.isPublic(all[0].getModifiers()) && all[0].getParameterCount() == 0, "a public one without more");
    }

    private static void checkMethods(Class<?> type) {
        TreeSet<String> open = new TreeSet<>();
        TreeSet<String> openNames = new TreeSet<>();
        for (Method method : type.getDeclaredMethods()) {
            if (!Modifier.isPrivate(method.getModifiers())) {
                check(Modifier.isPublic(method.getModifiers()) && !Modifier.isStatic(method.getModifiers()),
                        method.getName() + " is public and not static");
                open.add(signature(method));
                openNames.add(method.getName());
            }
        }
        check(open.equals(new TreeSet<>(Arrays.asList(FACE))), "the face is that of the document, but is " + open);
        for (Method method : type.getDeclaredMethods()) {
            check(!Modifier.isPrivate(method.getModifiers()) || !openNames.contains(method.getName()),
                    "no private method bears the name " + method.getName());
            check(method.getParameterCount() <= 7, method.getName() + " has at most seven parameters");
        }
    }

    private static String signature(Method method) {
        StringBuilder text = new StringBuilder(method.getReturnType() + " " + method.getName() + "(");
        String before = "";
        for (Class<?> parameter : method.getParameterTypes()) {
            text.append(before).append(parameter);
            before = ", ";
        }
        text.append(')');
        for (Class<?> thrown : method.getExceptionTypes()) {
            text.append(' ').append(thrown.getSimpleName());
        }
        return text.toString();
    }

    private static void checkFields(Class<?> type) {
        int number = 0;
        for (Field field : type.getDeclaredFields()) {
            int modifiers = field.getModifiers();
            check(Modifier.isPrivate(modifiers), field.getName() + " is private");
            check(!Modifier.isStatic(modifiers) || Modifier.isFinal(modifiers),
                    field.getName() + " is final if static");
            number += Modifier.isStatic(modifiers) ? 0 : 1;
        }
        check(number <= 20, "some twenty fields at most");
    }

    private static void checkText(Path root) throws Exception {
        Path file = root.resolve("src/main/java/RumourReasoner.java");
        check(Files.exists(file), "the program's text is at " + file);
        for (String line : Files.readAllLines(file)) {
            String code = line.strip();
            if (!code.startsWith("//") && !code.startsWith("*") && !code.startsWith("/*")) {
                for (String word : RULED_OUT) {
                    check(!code.contains(word), "no '" + word + "' in: " + code);
                }
            }
        }
    }
}
