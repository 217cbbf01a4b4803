import java.io.IOException;
import java.lang.reflect.Method;
import java.lang.reflect.Modifier;
import java.net.URL;
import java.net.URLClassLoader;
import java.nio.file.Files;
import java.nio.file.Path;
import java.util.ArrayList;
import java.util.Comparator;
import java.util.List;
import java.util.Set;
import java.util.TreeSet;
import java.util.regex.Matcher;
import java.util.regex.Pattern;
import java.util.stream.Stream;
import javax.tools.ToolProvider;

/** README.md's code is compiled as it stands there, and each call must answer what its comment begins with. */
public final class ReadmeTest {
    private static final Pattern CALL =
            Pattern.compile("(\\s*)(asker\\.(\\w+)\\(.*\\));\\s+// (true|false|-?\\d+)(:.*)?");
    private static final Pattern LISTED = Pattern.compile("- `(\\w+)`: .*");
    private static int failures = 0;

    public static void main(String[] args) throws Exception {
        List<String> readme = Files.readAllLines(Path.of("README.md"));
        List<String> code = blocks(readme, "```java");
        checkCallsAreShown(code);
        checkAnswers(code);
        checkCommand(blocks(readme, "```sh"));
        checkList(readme);
        System.out.println(failures == 0 ? "the README says true" : failures + " faults");
        if (failures != 0) {
            System.exit(1);
        }
    }

    private static void check(String what, boolean holds) {
        if (!holds) {
            failures++;
            System.out.println("README.md: " + what);
        }
    }

    private static List<String> blocks(List<String> lines, String fence) {
        List<String> found = new ArrayList<>();
        boolean inside = false;
        for (String line : lines) {
            if (inside && line.equals("```")) {
                inside = false;
            } else if (inside) {
                found.add(line);
            } else {
                inside = line.equals(fence);
            }
        }
        check("a block isn't closed: " + fence, !inside);
        return found;
    }

    private static void checkCallsAreShown(List<String> code) {
        Set<String> shown = new TreeSet<>();
        for (String line : code) {
            Matcher call = CALL.matcher(line);
            boolean isCall = call.matches();
            check("no answer stands behind: " + line, isCall || !line.contains("asker."));
            if (isCall) {
                shown.add(call.group(3));
            }
        }
        for (Method method : TextAsker.class.getDeclaredMethods()) {
            check("doesn't show " + method.getName(),
                    !Modifier.isPublic(method.getModifiers()) || shown.contains(method.getName()));
        }
    }

    /** Compiles the code the way that the README names, with a class of the user's beside TextAsker. */
    private static void checkAnswers(List<String> code) throws Exception {
        Path directory = Files.createTempDirectory("readme");
        try {
            Path yours = Files.writeString(directory.resolve("Yours.java"), program(code));
            Path out = directory.resolve("out");
            int exit = ToolProvider.getSystemJavaCompiler().run(null, null, null,
                    "-d", out.toString(), "src/main/java/TextAsker.java", yours.toString());
            check("its code doesn't compile", exit == 0);
            if (exit == 0) {
                runProgram(out);
            }
        } finally {
            delete(directory);
        }
    }

    private static String program(List<String> code) {
        StringBuilder text = new StringBuilder("public final class Yours {\n"
                + "    public static int faults = 0;\n"
                + "    private static void due(String call, Object got, Object due) {\n"
                + "        if (!got.equals(due)) {\n"
                + "            faults++;\n"
                + "            System.out.println(\"README.md: \" + call + \" is \" + got + \", not \" + due);\n"
                + "        }\n"
                + "    }\n"
                + "    public static void run() {\n");
        for (String line : code) {
            Matcher call = CALL.matcher(line);
            text.append(call.matches()
                    ? call.group(1) + "due(\"" + call.group(2) + "\", " + call.group(2) + ", " + call.group(4) + ");"
                    : line).append('\n');
        }
        return text.append("    }\n}\n").toString();
    }

    private static void runProgram(Path out) throws Exception {
        URL[] places = {out.toUri().toURL()};
        try (URLClassLoader loader = new URLClassLoader(places, ClassLoader.getPlatformClassLoader())) {
            Class<?> yours = loader.loadClass("Yours");
            yours.getMethod("run").invoke(null);
            failures += yours.getField("faults").getInt(null);
        }
    }

    private static void delete(Path directory) throws IOException {
        try (Stream<Path> all = Files.walk(directory)) {
            for (Path path : all.sorted(Comparator.reverseOrder()).toList()) {
                Files.delete(path);
            }
        }
    }

    private static void checkCommand(List<String> commands) {
        check("names " + commands + " to run the tests", commands.equals(List.of(".ci/run")));
        check(".ci/run isn't there", Files.isRegularFile(Path.of(".ci/run")));
    }

    private static void checkList(List<String> readme) throws IOException {
        Set<String> listed = new TreeSet<>();
        for (String line : readme) {
            Matcher test = LISTED.matcher(line);
            if (test.matches() && test.group(1).endsWith("Test")) {
                listed.add(test.group(1) + ".java");
            }
        }
        Set<String> there = new TreeSet<>();
        try (Stream<Path> all = Files.list(Path.of("src/test/java"))) {
            all.forEach(path -> there.add(path.getFileName().toString()));
        }
        check("lists " + listed + ", there are " + there, listed.equals(there));
    }
}
