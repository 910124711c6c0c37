import java.io.IOException;
import java.lang.reflect.Field;
import java.lang.reflect.Method;
import java.lang.reflect.Modifier;
import java.net.URL;
import java.net.URLClassLoader;
import java.nio.file.Files;
import java.nio.file.Path;
import java.util.ArrayList;
import java.util.LinkedHashMap;
import java.util.List;
import java.util.Map;
import java.util.regex.Matcher;
import java.util.regex.Pattern;
import java.util.stream.Stream;
import javax.tools.ToolProvider;

/** What README.md tells: its Java is compiled and run, and each call in it answers what its comment begins with. */
public final class ReadmeTest {
    private static final Check CHECK = new Check("ReadmeTest");
    private static final Pattern CALL = Pattern.compile("(x\\.\\w+\\(.*\\)); +// (-?\\d+|[A-Z]+)(:.*)?");

    public static void main(String[] args) throws Exception {
        String readme = Files.readString(Path.of("README.md"));
        List<String> examples = blocksOf(readme, "java");
        CHECK.isTrue("README.md shows the class in use", !examples.isEmpty());
        for (String example : examples) {
            look(example);
        }
        namesAll(String.join("", examples), readme);
        testsAreNamed(readme);
        commandStands(readme);
        CHECK.end();
    }

    private static List<String> blocksOf(String readme, String language) {
        List<String> blocks = new ArrayList<>();
        Matcher block = Pattern.compile("(?s)```" + language + "\n(.*?)```").matcher(readme);
        while (block.find()) {
            blocks.add(block.group(1));
        }
        return blocks;
    }

    private static void look(String example) throws Exception {
        Map<String, long[]> answers = new LinkedHashMap<>();
        run(asked(example), answers);
        CHECK.isTrue("an example has answers", !answers.isEmpty());
        answers.forEach((call, answer) -> CHECK.due(call, answer[0], answer[1]));
    }

    /** The example with each answer put down beside the one that is due. */
    private static String asked(String example) {
        StringBuilder code = new StringBuilder();
        int number = 0;
        for (String line : example.split("\n")) {
            number++;
            Matcher call = CALL.matcher(line);
            if (call.matches()) {
                String due = call.group(2).matches("[A-Z]+") ? "HullOffsets." + call.group(2) : call.group(2) + "L";
                code.append(String.format("answers.put(\"line %d: %s\", new long[] {%s, %s});%n",
                        number, call.group(1), call.group(1), due));
            } else {
                CHECK.isTrue("a call that is shown is shown with its answer: " + line, !line.startsWith("x."));
                code.append(line).append('\n');
            }
        }
        return code.toString();
    }

    private static void run(String code, Map<String, long[]> answers) throws Exception {
        Path made = Files.createTempDirectory("readme");
        try {
            Path file = made.resolve("Example.java");
            Files.writeString(file, "public final class Example { public static void run("
                    + "java.util.Map<String, long[]> answers) {\n" + code + "} }\n");
            int failed = ToolProvider.getSystemJavaCompiler().run(null, null, null,
                    "--release", "17", "-proc:none", "-cp", System.getProperty("java.class.path"),
                    "-d", made.toString(), file.toString());
            CHECK.due("errors as javac compiles the example", failed, 0);
            if (failed == 0) {
                try (URLClassLoader loader = new URLClassLoader(new URL[] {made.toUri().toURL()})) {
                    loader.loadClass("Example").getMethod("run", Map.class).invoke(null, answers);
                }
            }
        } finally {
            deleteAll(made);
        }
    }

    private static void deleteAll(Path directory) throws IOException {
        try (Stream<Path> files = Files.list(directory)) {
            for (Path file : files.toList()) {
                Files.delete(file);
            }
        }
        Files.delete(directory);
    }

    private static void namesAll(String examples, String readme) {
        for (Method method : HullOffsets.class.getDeclaredMethods()) {
            if (Modifier.isPublic(method.getModifiers())) {
                CHECK.isTrue("README.md shows " + method.getName(), examples.contains("x." + method.getName() + "("));
            }
        }
        for (Field constant : HullOffsets.class.getFields()) {
            CHECK.isTrue("README.md shows " + constant.getName(), examples.contains(" " + constant.getName() + ":"));
            CHECK.isTrue("README.md tells of " + constant.getName(), readme.contains("`" + constant.getName() + "`"));
        }
    }

    private static void testsAreNamed(String readme) throws IOException {
        List<String> there = new ArrayList<>();
        try (Stream<Path> files = Files.list(Path.of("src/test/java"))) {
            files.map(file -> file.getFileName().toString()).filter(name -> name.endsWith("Test.java"))
                    .forEach(name -> there.add(name.replace(".java", "")));
        }
        List<String> told = new ArrayList<>();
        Matcher row = Pattern.compile("(?m)^\\| `(\\w+)` \\|").matcher(readme);
        while (row.find()) {
            told.add(row.group(1));
        }
        there.sort(null);
        told.sort(null);
        CHECK.isTrue("README.md tells of each test that there is: " + there + ", not: " + told, there.equals(told));
    }

    private static void commandStands(String readme) {
        List<String> commands = blocksOf(readme, "sh");
        CHECK.isTrue("README.md shows one command: " + commands, commands.equals(List.of(".ci/run\n")));
        CHECK.isTrue("that command can be run", Files.isExecutable(Path.of(".ci/run")));
    }
}
