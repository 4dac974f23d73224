import java.lang.reflect.InvocationTargetException;
import java.lang.reflect.Method;
import java.lang.reflect.Modifier;
import java.net.URL;
import java.net.URLClassLoader;
import java.nio.file.Files;
import java.nio.file.Path;
import java.util.ArrayList;
import java.util.List;
import java.util.Set;
import java.util.TreeSet;
import java.util.regex.Matcher;
import java.util.regex.Pattern;
import java.util.stream.Stream;
import javax.tools.JavaCompiler;
import javax.tools.ToolProvider;

/**
 * Compiles and runs the example of README.md, and compares what each line answers with what its comment says. Each
 * line that calls the class must tell its answer: a number, true, false or "throws" with a name, and a colon if more
 * follows. The calls and the tests that README.md names must be those that there are.
 */
public final class ReadmeTest {
    private static final Pattern LINE = Pattern.compile("(.*?);\\s*(?://\\s*(.*))?");
    private static final Pattern ANSWER = Pattern.compile("(-?\\d+(?:\\.\\d+)?|true|false|throws \\w+)(?::.*)?");
    private static final Pattern NEW_NAME = Pattern.compile("(?:int|long|boolean|double) (\\w+) = .*");
    private static final String NEW_OBJECT = "RumourReasoner r = new RumourReasoner()";
    private static int wrong = 0;

    public static void main(String[] args) throws Exception {
        Path root = Path.of(args.length > 0 ? args[0] : ".");
        String readme = Files.readString(root.resolve("README.md"));
        List<String> example = example(readme);
        testExample(example);
        testCalls(readme, String.join("\n", example));
        testTests(readme, root);
        System.out.println("ReadmeTest: " + example.size() + " lines of the example, " + wrong + " wrong");
        if (wrong != 0) {
            System.exit(1);
        }
    }

    private static void fail(String what) {
        wrong++;
        System.out.println("README.md: " + what);
    }

    private static List<String> example(String readme) {
        List<String> lines = new ArrayList<>();
        boolean isInside = false;
        for (String line : readme.split("\n")) {
            if (line.startsWith("```")) {
                isInside = line.equals("```java");
            } else if (isInside && !line.isBlank() && !line.startsWith("//")) {
                lines.add(line);
            }
        }
        return lines;
    }

    // ---- the example

    private static void testExample(List<String> lines) throws Exception {
        List<String> answers = new ArrayList<>();
        List<String> told = new ArrayList<>();
        StringBuilder body = new StringBuilder();
        for (String line : lines) {
            Matcher parts = LINE.matcher(line);
            if (!parts.matches()) {
                fail("not one statement: " + line);
            } else if (parts.group(1).equals(NEW_OBJECT)) {
                body.append(NEW_OBJECT).append(";\n");
            } else {
                Matcher answer = ANSWER.matcher(parts.group(2) == null ? "" : parts.group(2));
                if (answer.matches()) {
                    body.append(statement(parts.group(1), answer.group(1).startsWith("throws")));
                    answers.add(answer.group(1));
                    told.add(line);
                } else {
                    fail("no answer told: " + line);
                }
            }
        }
        compare(told, answers, run(body.toString()));
    }

    private static String statement(String code, boolean isThrowing) {
        Matcher named = NEW_NAME.matcher(code);
        if (named.matches()) {
            return code + ";\nanswers.add(String.valueOf(" + named.group(1) + "));\n";
        }
        String asked = "answers.add(String.valueOf(" + code + "));";
        return !isThrowing ? asked + "\n" : "try { " + asked + " } catch (RuntimeException e) {"
                + " answers.add(\"throws \" + e.getClass().getSimpleName()); }\n";
    }

    private static List<String> run(String body) throws Exception {
        Path folder = Files.createTempDirectory("readme");
        Path source = folder.resolve("ReadmeExample.java");
        Files.writeString(source, "public final class ReadmeExample {\n"
                + "public static void answer(java.util.List<String> answers) {\n" + body + "}\n}\n");
        List<String> answers = new ArrayList<>();
        JavaCompiler compiler = ToolProvider.getSystemJavaCompiler();
        String classPath = System.getProperty("java.class.path");
        if (compiler == null || compiler.run(null, null, null, "--release", "17", "-cp", classPath, "-d",
                folder.toString(), source.toString()) != 0) {
            fail("the example does not compile");
        } else {
            try (URLClassLoader loader = new URLClassLoader(new URL[] {folder.toUri().toURL()})) {
                loader.loadClass("ReadmeExample").getMethod("answer", List.class).invoke(null, answers);
            } catch (InvocationTargetException e) {
                fail("the example ends with " + e.getCause());
            }
        }
        delete(folder);
        return answers;
    }

    private static void delete(Path folder) throws Exception {
        try (Stream<Path> files = Files.list(folder)) {
            for (Path file : files.toList()) {
                Files.delete(file);
            }
        }
        Files.delete(folder);
    }

    private static void compare(List<String> lines, List<String> told, List<String> got) {
        for (int k = 0; k < lines.size(); k++) {
            String answer = k < got.size() ? got.get(k) : "nothing";
            if (!answer.equals(told.get(k))) {
                fail("the class answers " + answer + ": " + lines.get(k));
            }
        }
        if (lines.isEmpty()) {
            fail("no example");
        }
    }

    // ---- the names

    private static void testCalls(String readme, String example) {
        for (Method method : RumourReasoner.class.getDeclaredMethods()) {
            if (Modifier.isPublic(method.getModifiers())) {
                if (!readme.contains("`" + method.getName() + "`")) {
                    fail("does not name the call " + method.getName());
                }
                if (!example.contains("r." + method.getName() + "(")) {
                    fail("has no example of the call " + method.getName());
                }
            }
        }
    }

    private static void testTests(String readme, Path root) throws Exception {
        Set<String> named = new TreeSet<>();
        Matcher name = Pattern.compile("`(\\w+Test)`").matcher(readme);
        while (name.find()) {
            named.add(name.group(1) + ".java");
        }
        Set<String> there = new TreeSet<>();
        try (Stream<Path> files = Files.list(root.resolve("src/test/java"))) {
            files.forEach(file -> there.add(file.getFileName().toString()));
        }
        if (!named.equals(there)) {
            fail("names the tests " + named + ", but there are " + there);
        }
    }
}
