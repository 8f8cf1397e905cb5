import java.io.IOException;
import java.lang.reflect.Method;
import java.lang.reflect.Modifier;
import java.net.URL;
import java.net.URLClassLoader;
import java.nio.file.Files;
import java.nio.file.Path;
import java.util.ArrayList;
import java.util.List;
import java.util.Set;
import java.util.TreeSet;
import java.util.regex.Matcher;
import java.util.regex.Pattern;
import java.util.stream.Stream;
import javax.tools.ToolProvider;

/**
 * README.md: each call that it shows answers as it says there, its examples show every method of the face, and it
 * names every test. To be run from the project's root.
 */
public final class ReadmeTest {
    private static final Pattern EXAMPLES = Pattern.compile("(?s)```java\n(.*?)```");
    private static final Pattern CALL =
        Pattern.compile("(int \\w+ = )?(port\\.(\\w+)\\([^;]*\\)); +// (throws )?([^: ]+)(:.*)?");
    private static final String NEW_PORT = "HarborTides port = new HarborTides();";

    private static final Set<String> shown = new TreeSet<>();

    public static void main(String[] args) throws Exception {
        String readme = Files.readString(Path.of("README.md"));
        List<List<String>> examples = examples(readme);
        Check.due("README.md has examples", examples.isEmpty(), false);
        for (String[] call : answers(program(examples))) {
            Check.due(call[0], call[1], call[2]);
        }
        everyMethodIsShown();
        everyTestIsNamed(readme);
        Check.due("README.md says how to run the tests", readme.contains(".ci/run"), true);
        Check.end();
    }

    private static List<List<String>> examples(String readme) {
        List<List<String>> examples = new ArrayList<>();
        Matcher found = EXAMPLES.matcher(readme);
        while (found.find()) {
            examples.add(found.group(1).lines().filter(line -> !line.isBlank()).toList());
        }
        return examples;
    }

    /** A program that makes the calls of the examples, and tells for each what it answered and what was due. */
    private static String program(List<List<String>> examples) {
        StringBuilder program = new StringBuilder("public final class Examples {\n");
        StringBuilder all = new StringBuilder();
        for (int k = 0; k < examples.size(); k++) {
            all.append("        example").append(k).append("(told);\n");
            program.append("    private static void example").append(k).append("(java.util.List<String[]> told) {\n");
            for (String line : examples.get(k)) {
                program.append(statement(line));
            }
            program.append("    }\n");
        }
        return program.append("    public static void tell(java.util.List<String[]> told) {\n").append(all).append("    }\n}\n")
            .toString();
    }

    private static String statement(String line) {
        if (line.equals(NEW_PORT)) {
            return "        " + line + "\n";
        }
        Matcher call = CALL.matcher(line);
        if (!call.matches()) {
            Check.fail("a line of README.md is no call with its answer: " + line);
            return "";
        }
        shown.add(call.group(3));
        String due = call.group(5);
        if (call.group(4) != null) {
            return "        try { " + call.group(2) + "; " + told(line, "\"nothing\"", "\"" + due + "\"") + " }\n"
                + "        catch (RuntimeException e) { " + told(line, "e.getClass().getSimpleName()", "\"" + due + "\"") + " }\n";
        }
        if (call.group(1) != null) {
            String name = call.group(1).split(" ")[1];
            return "        " + call.group(1) + call.group(2) + ";\n        " + told(line, name, due) + "\n";
        }
        return "        " + told(line, call.group(2), due) + "\n";
    }

    private static String told(String line, String got, String due) {
        String text = line.replace("\\", "\\\\").replace("\"", "\\\"");
        return "told.add(new String[] {\"" + text + "\", String.valueOf(" + got + "), String.valueOf(" + due + ")});";
    }

    private static List<String[]> answers(String program) throws Exception {
        Path folder = Files.createTempDirectory("readme");
        Path source = folder.resolve("Examples.java");
        List<String[]> told = new ArrayList<>();
        try {
            Files.writeString(source, program);
            String classes = System.getProperty("java.class.path");
            int failed = ToolProvider.getSystemJavaCompiler()
                .run(null, null, null, "-cp", classes, "-d", folder.toString(), source.toString());
            Check.due("the examples of README.md compile", failed, 0);
            if (failed == 0) {
                try (URLClassLoader loader = new URLClassLoader(new URL[] {folder.toUri().toURL()})) {
                    loader.loadClass("Examples").getMethod("tell", List.class).invoke(null, told);
                }
            }
        } finally {
            delete(folder);
        }
        return told;
    }

    private static void delete(Path folder) throws IOException {
        try (Stream<Path> files = Files.list(folder)) {
            for (Path file : files.toList()) {
                Files.delete(file);
            }
        }
        Files.delete(folder);
    }

    private static void everyMethodIsShown() {
        Set<String> methods = new TreeSet<>();
        for (Method method : HarborTides.class.getDeclaredMethods()) {
            if (Modifier.isPublic(method.getModifiers())) {
                methods.add(method.getName());
            }
        }
        Check.due("the methods that README.md shows", shown.toString(), methods.toString());
    }

    private static void everyTestIsNamed(String readme) throws IOException {
        Set<String> named = new TreeSet<>();
        Matcher found = Pattern.compile("(?m)^\\| `(\\w+)` \\|").matcher(readme);
        while (found.find()) {
            named.add(found.group(1));
        }
        Set<String> tests = new TreeSet<>();
        try (Stream<Path> files = Files.list(Path.of("src/test/java"))) {
            files.map(file -> file.getFileName().toString()).filter(name -> name.endsWith("Test.java"))
                .forEach(name -> tests.add(name.replace(".java", "")));
        }
        Check.due("the tests that README.md names", named.toString(), tests.toString());
    }
}
