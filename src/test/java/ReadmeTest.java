import java.io.IOException;
import java.lang.reflect.Field;
import java.lang.reflect.Method;
import java.lang.reflect.Modifier;
import java.net.URL;
import java.net.URLClassLoader;
import java.nio.file.Files;
import java.nio.file.Path;
import java.util.List;
import java.util.regex.Matcher;
import java.util.regex.Pattern;
import java.util.stream.Collectors;
import java.util.stream.Stream;
import javax.tools.ToolProvider;

/** README.md: its example compiles and answers what it says; every call, error and test is named. */
public final class ReadmeTest {
    private static final Path PAGE = Path.of("README.md");
    private static final Path TESTS = Path.of("src", "test", "java");
    /** A call of the example, with what it answers behind it: a number or an error. */
    private static final Pattern ANSWERED = Pattern.compile("(int \\w+ = )?(bridge\\..*);\\s*// (-?\\d+|[A-Z]+_[A-Z]+)\\b.*");
    private static int answers = 0;
    private static int right = 0;
    private static int wrong = 0;

    private ReadmeTest() {
    }

    public static void main(String[] args) throws Exception {
        List<String> lines = Files.readAllLines(PAGE);
        String page = String.join("\n", lines);
        names(page);
        example(lines);
        holds(answers > 0, "no answer of the example was asked for");
        System.out.println("        " + right + " right, " + wrong + " wrong");
        if (wrong != 0) {
            System.exit(1);
        }
    }

    private static void holds(boolean so, String fault) {
        if (so) {
            right++;
        } else {
            wrong++;
            System.out.println(PAGE + ": " + fault);
        }
    }

    private static void named(String page, String name) {
        holds(page.contains("`" + name + "`"), name + " is not named");
    }

    private static void names(String page) throws IOException {
        for (Method method : OhmBridge.class.getDeclaredMethods()) {
            if (Modifier.isPublic(method.getModifiers())) {
                named(page, method.getName());
            }
        }
        for (Field field : OhmBridge.class.getDeclaredFields()) {
            if (Modifier.isPublic(field.getModifiers())) {
                named(page, field.getName());
            }
        }
        for (String test : tests()) {
            named(page, test);
        }
        holds(page.contains("\n.ci/run\n"), "it does not tell how the tests are run");
    }

    private static List<String> tests() throws IOException {
        try (Stream<Path> files = Files.list(TESTS)) {
            return files.map(file -> file.getFileName().toString()).filter(name -> name.endsWith("Test.java"))
                    .map(name -> name.substring(0, name.length() - ".java".length())).collect(Collectors.toList());
        }
    }

    private static void example(List<String> lines) throws Exception {
        StringBuilder code = new StringBuilder("public final class ReadmeExample { public static void run() {\n");
        boolean inside = false;
        for (String line : lines) {
            if (line.startsWith("```")) {
                inside = line.equals("```java");
            } else if (inside) {
                code.append(asked(line)).append('\n');
            }
        }
        run(code.append("} }\n").toString());
    }

    private static String asked(String line) {
        Matcher call = ANSWERED.matcher(line);
        if (!call.matches()) {
            holds(!line.contains("bridge.") || !line.contains("//"), "this line tells no answer: " + line);
            return line;
        }
        String want = call.group(3);
        String due = Character.isUpperCase(want.charAt(0)) ? "OhmBridge." + want : want;
        String kept = call.group(1) == null ? "" : call.group(1);
        return kept + "ReadmeTest.due(\"" + call.group(2).replace("\"", "\\\"") + "\", " + call.group(2) + ", " + due + ");";
    }

    /** What the lines of the example call, once they are compiled. */
    public static int due(String call, int answer, int want) {
        answers++;
        holds(answer == want, call + " answered " + answer + ", it says " + want);
        return answer;
    }

    private static void run(String code) throws Exception {
        Path folder = Files.createTempDirectory("readme");
        Path source = folder.resolve("ReadmeExample.java");
        Path compiled = folder.resolve("ReadmeExample.class");
        try {
            Files.writeString(source, code);
            int fault = ToolProvider.getSystemJavaCompiler().run(null, null, null, "-proc:none", "-cp",
                    System.getProperty("java.class.path"), "-d", folder.toString(), source.toString());
            holds(fault == 0, "the example does not compile");
            if (fault == 0) {
                try (URLClassLoader loader = new URLClassLoader(new URL[] {folder.toUri().toURL()})) {
                    loader.loadClass("ReadmeExample").getMethod("run").invoke(null);
                }
            }
        } finally {
            Files.deleteIfExists(compiled);
            Files.deleteIfExists(source);
            Files.deleteIfExists(folder);
        }
    }
}
