import java.io.IOException;
import java.lang.reflect.Method;
import java.net.URL;
import java.net.URLClassLoader;
import java.nio.file.Files;
import java.nio.file.Path;
import java.util.ArrayList;
import java.util.List;
import java.util.regex.Matcher;
import java.util.regex.Pattern;
import javax.tools.JavaCompiler;
import javax.tools.ToolProvider;

/** The examples of README.md, one after another: they compile, and answer what stands behind them. */
public final class ReadmeTest extends Checks {
    private static final Path README = Path.of("README.md");
    private static final Pattern BLOCK = Pattern.compile("(?s)```java\n(.*?)```");
    private static final Pattern ANSWER =
            Pattern.compile("^(?:int|boolean) (\\w+) = .*; +// (-?\\d+|true|false)(?::.*)?$");

    public static void main(String[] args) throws Exception {
        sentence("README.md");
        String text = Files.readString(README);
        examples(text);
        namesAll(text);
        finish();
    }

    private static void examples(String text) throws Exception {
        StringBuilder methods = new StringBuilder();
        StringBuilder body = new StringBuilder();
        List<String> names = new ArrayList<>();
        List<String> wanted = new ArrayList<>();
        Matcher block = BLOCK.matcher(text);
        while (block.find()) {
            if (block.group(1).startsWith("static ")) {
                methods.append(block.group(1));
                continue;
            }
            for (String line : block.group(1).split("\n")) {
                body.append(line).append('\n');
                Matcher answer = ANSWER.matcher(line);
                boolean answered = answer.matches();
                due("an answer stands behind " + line, answered || line.startsWith("SwallowSurvey "), true);
                if (answered) {
                    names.add(answer.group(1));
                    wanted.add(answer.group(2));
                    body.append("answered.add(String.valueOf(" + answer.group(1) + "));\n");
                }
            }
        }
        due("there are answers", wanted.size() > 20, true);
        List<?> got = run("public final class Example {\n" + methods
                + "public static java.util.List<String> example() {\n"
                + "java.util.List<String> answered = new java.util.ArrayList<>();\n" + body
                + "return answered;\n}\n}\n");
        due("answers in all", got.size(), wanted.size());
        for (int i = 0; i < got.size() && i < wanted.size(); i++) {
            due(names.get(i) + " = " + wanted.get(i) + " (here " + got.get(i) + ")",
                    got.get(i).equals(wanted.get(i)), true);
        }
    }

    /** What the examples answered, one by one. */
    private static List<?> run(String source) throws Exception {
        Path folder = Files.createTempDirectory("readme");
        try {
            Path file = Files.writeString(folder.resolve("Example.java"), source);
            JavaCompiler compiler = ToolProvider.getSystemJavaCompiler();
            int code = compiler.run(null, null, null, "-d", folder.toString(), "-cp",
                    System.getProperty("java.class.path"), file.toString());
            due("the examples compile", code, 0);
            return code == 0 ? call(folder) : List.of();
        } finally {
            delete(folder);
        }
    }

    private static List<?> call(Path folder) throws Exception {
        try (URLClassLoader loader = new URLClassLoader(new URL[] {folder.toUri().toURL()})) {
            return (List<?>) loader.loadClass("Example").getMethod("example").invoke(null);
        }
    }

    private static void delete(Path folder) throws IOException {
        List<Path> all = new ArrayList<>();
        try (var inside = Files.list(folder)) {
            inside.forEach(all::add);
        }
        all.add(folder);
        for (Path path : all) {
            Files.delete(path);
        }
    }

    private static void namesAll(String text) {
        for (Method m : SwallowSurvey.class.getDeclaredMethods()) {
            if (java.lang.reflect.Modifier.isPublic(m.getModifiers())) {
                due("the call " + m.getName() + " stands there", text.contains("`" + m.getName() + "("), true);
            }
        }
        for (String test : Path.of("src/test/java").toFile().list()) {
            String name = test.replace(".java", "");
            due("the test " + name + " stands there", text.contains("`" + name + "`"), true);
        }
        due("how tests are run stands there", text.contains("\n.ci/run\n"), true);
    }
}
