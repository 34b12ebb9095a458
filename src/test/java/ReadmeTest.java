import java.io.IOException;
import java.net.URL;
import java.net.URLClassLoader;
import java.nio.file.Files;
import java.nio.file.Path;
import java.util.ArrayList;
import java.util.List;
import java.util.function.Supplier;
import java.util.regex.Matcher;
import java.util.regex.Pattern;
import javax.tools.ToolProvider;

/** The Java on README.md's page is made a program, whose calls answer what stands behind them. */
public final class ReadmeTest {
    private static final Path PAGE = Path.of("README.md");
    private static final Pattern BLOCK = Pattern.compile("^```java\n(.*?)^```$", Pattern.DOTALL | Pattern.MULTILINE);
    private static final Pattern CALL = Pattern.compile("(.+\\)); +// (.+?)(: .*)?");

    private final StringBuilder methods = new StringBuilder();
    private final StringBuilder statements = new StringBuilder();
    private final List<String> calls = new ArrayList<>();
    private final List<String> answers = new ArrayList<>();

    public static void main(String[] args) throws Exception {
        ReadmeTest test = new ReadmeTest();
        test.read(Files.readString(PAGE));
        test.compare(test.answered());
        Check.finish();
    }

    private void read(String page) {
        Matcher block = BLOCK.matcher(page);
        while (block.find()) {
            if (block.group(1).startsWith("static ")) {
                methods.append(block.group(1));
            } else {
                block.group(1).lines().forEach(this::readStatement);
            }
        }
    }

    private void readStatement(String line) {
        Matcher call = CALL.matcher(line);
        if (call.matches()) {
            statements.append("answers.add(show(() -> ").append(call.group(1)).append("));\n");
            calls.add(call.group(1));
            answers.add(call.group(2));
        } else {
            statements.append(line).append('\n');
        }
    }

    private String program() {
        return "import java.util.*;\nimport java.util.function.*;\n"
                + "public final class ReadmeProgram implements Supplier<List<String>> {\n"
                + "public List<String> get() {\nList<String> answers = new ArrayList<>();\n" + statements
                + "return answers;\n}\n" + methods
                + "static String show(Supplier<Object> call) {\ntry {\nObject got = call.get();\n"
                + "String sign = got instanceof Character ? \"'\" : got instanceof String ? \"\\\"\" : \"\";\n"
                + "return sign + got + sign;\n} catch (RuntimeException e) {\nreturn e.getClass().getSimpleName();\n}\n}\n}\n";
    }

    @SuppressWarnings("unchecked")
    private List<String> answered() throws IOException, ReflectiveOperationException {
        Path directory = Files.createTempDirectory("readme");
        Path source = directory.resolve("ReadmeProgram.java");
        Path made = directory.resolve("ReadmeProgram.class");
        Files.writeString(source, program());
        int failed = ToolProvider.getSystemJavaCompiler().run(null, null, null, "-d", directory.toString(),
                "-cp", System.getProperty("java.class.path"), source.toString());
        Check.equal("javac's exit code", failed, 0);
        try (URLClassLoader loader = new URLClassLoader(new URL[] {directory.toUri().toURL()})) {
            return ((Supplier<List<String>>) loader.loadClass("ReadmeProgram").getConstructor().newInstance()).get();
        } finally {
            Files.deleteIfExists(source);
            Files.deleteIfExists(made);
            Files.delete(directory);
        }
    }

    private void compare(List<String> got) {
        Check.equal("calls on the page", calls.size() >= 40, true);
        for (int i = 0; i < calls.size(); i++) {
            Check.equal(calls.get(i), got.get(i), answers.get(i));
        }
    }
}
