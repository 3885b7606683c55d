import java.io.IOException;
import java.lang.reflect.Method;
import java.lang.reflect.Modifier;
import java.net.URL;
import java.net.URLClassLoader;
import java.nio.file.DirectoryStream;
import java.nio.file.Files;
import java.nio.file.Path;
import java.util.ArrayList;
import java.util.List;
import java.util.regex.Matcher;
import java.util.regex.Pattern;
import javax.tools.ToolProvider;

/** README.md: its example is compiled and answers as it says; it names every call and test. */
public final class ReadmeTest {
    private static final Pattern CALL = Pattern.compile(
            "(?:int (\\w+) = )?(guide\\.[^;]+);\\s*// (-?\\d+|true|false)(?:: .*)?");

    private final Check check = new Check();
    private final List<String> calls = new ArrayList<>();
    private final List<Long> due = new ArrayList<>();

    public static void main(String[] args) throws Exception {
        ReadmeTest test = new ReadmeTest();
        String readme = Files.readString(Path.of("README.md"));
        test.example(readme);
        test.namesCalls(readme);
        test.namesPrograms(readme);
        test.check.end();
    }

    private void example(String readme) throws Exception {
        String program = program(readme);
        long[] got = run(program);
        check.due("calls in the example", got.length, calls.size());
        for (int i = 0; i < got.length && i < calls.size(); i++) {
            check.due(calls.get(i), got[i], due.get(i));
        }
        check.due("the example has calls", calls.size() > 20, true);
        for (Method method : GuideSearch.class.getDeclaredMethods()) {
            if (Modifier.isPublic(method.getModifiers())) {
                check.due("the example calls " + method.getName(),
                        program.contains("guide." + method.getName() + "("), true);
            }
        }
    }

    /** A class whose method run() makes the example's calls and tells their answers in a row. */
    private String program(String readme) {
        int start = readme.indexOf("```java\n") + "```java\n".length();
        String[] lines = readme.substring(start, readme.indexOf("```", start)).split("\n");
        StringBuilder text = new StringBuilder();
        for (String line : lines) {
            Matcher call = CALL.matcher(line);
            if (call.matches()) {
                text.append(asked(call)).append('\n');
            } else {
                check.due("a line without an answer: " + line,
                        line.isEmpty() || line.startsWith("GuideSearch guide ="), true);
                text.append(line).append('\n');
            }
        }
        return "public final class Example {\npublic static long[] run() {\nlong[] got = new long["
                + calls.size() + "];\n" + text + "return got;\n}\n}\n";
    }

    private String asked(Matcher call) {
        String answer = call.group(3);
        boolean word = !answer.matches("-?\\d+");
        String kept = "got[" + calls.size() + "] = ";
        calls.add(call.group(2));
        due.add(word ? (answer.equals("true") ? 1L : 0L) : Long.parseLong(answer));
        if (call.group(1) != null) {
            return "int " + call.group(1) + " = " + call.group(2) + ";\n" + kept + call.group(1)
                    + ";";
        }
        return kept + call.group(2) + (word ? " ? 1 : 0;" : ";");
    }

    private static long[] run(String program) throws Exception {
        Path room = Files.createTempDirectory("readme");
        Path source = room.resolve("Example.java");
        try {
            Files.writeString(source, program);
            int wrong = ToolProvider.getSystemJavaCompiler().run(null, null, null, "-cp",
                    System.getProperty("java.class.path"), "-d", room.toString(),
                    source.toString());
            if (wrong != 0) {
                return new long[0];
            }
            try (URLClassLoader loader = new URLClassLoader(new URL[] {room.toUri().toURL()})) {
                return (long[]) loader.loadClass("Example").getMethod("run").invoke(null);
            }
        } finally {
            Files.deleteIfExists(room.resolve("Example.class"));
            Files.deleteIfExists(source);
            Files.deleteIfExists(room);
        }
    }

    private void namesCalls(String readme) {
        for (Method method : GuideSearch.class.getDeclaredMethods()) {
            if (Modifier.isPublic(method.getModifiers())) {
                check.due("the table has " + method.getName(),
                        readme.contains("| `" + method.getName() + "("), true);
            }
        }
    }

    private void namesPrograms(String readme) throws IOException {
        check.due("README.md says how to run the tests", readme.contains("\n    .ci/run\n"), true);
        try (DirectoryStream<Path> files =
                Files.newDirectoryStream(Path.of("src/test/java"), "*.java")) {
            for (Path file : files) {
                String name = file.getFileName().toString().replace(".java", "");
                check.due("README.md names " + name, readme.contains("`" + name + "`"), true);
            }
        }
    }
}
