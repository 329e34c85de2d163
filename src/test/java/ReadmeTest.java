import java.io.IOException;
import java.net.URL;
import java.net.URLClassLoader;
import java.nio.file.Files;
import java.nio.file.Path;
import java.util.ArrayList;
import java.util.List;
import java.util.function.Supplier;
import java.util.regex.Matcher;
import java.util.regex.Pattern;
import javax.tools.JavaCompiler;
import javax.tools.ToolProvider;

/** The calls that stand in README.md give the answers that stand there: its own lines are compiled and run. */
public final class ReadmeTest {
    private static final Pattern BLOCK = Pattern.compile("(?s)```java\n(.*?)```");
    private static final Pattern CALL = Pattern.compile("(.*\\));\\s*// (true|false|-?\\d+)(:.*)?");
    private static final String MAKING = "BoundedTypes x = new BoundedTypes();";
    private static final List<String> FACE =
        List.of("type", "declare", "run", "length", "at", "left", "fields", "method");
    private static final Path FOLDER = Path.of("build", "readme");

    private final StringBuilder methods = new StringBuilder();
    private final StringBuilder statements = new StringBuilder();
    private final List<String> calls = new ArrayList<>();
    private final List<String> due = new ArrayList<>();

    public static void main(String[] args) throws ReflectiveOperationException, IOException {
        ReadmeTest test = new ReadmeTest();
        test.take(Files.readString(Path.of("README.md")));
        test.everyMethodIsShown();
        test.compare(test.answers());
        Session.end();
    }

    private void take(String readme) {
        Matcher blocks = BLOCK.matcher(readme);
        while (blocks.find()) {
            String block = blocks.group(1);
            if (block.startsWith("static ")) {
                methods.append(block);
            } else {
                block.lines().filter(line -> !line.isBlank()).forEach(this::takeLine);
            }
        }
    }

    /** Each line but that which makes the object must be a call with its answer: none goes by unlooked at. */
    private void takeLine(String line) {
        Matcher call = CALL.matcher(line);
        if (line.equals(MAKING)) {
            statements.append(line).append('\n');
        } else if (call.matches()) {
            calls.add(call.group(1));
            due.add(call.group(2));
            statements.append("answers.add(String.valueOf(").append(call.group(1)).append("));\n");
        } else {
            Session.due("a call with its answer: " + line, false, true);
        }
    }

    private void everyMethodIsShown() {
        for (String name : FACE) {
            boolean isShown = calls.stream().anyMatch(call -> call.startsWith("x." + name + "("));
            Session.due("README.md shows " + name, isShown, true);
        }
    }

    private void compare(List<String> answers) {
        Session.due("how many answers", answers.size(), due.size());
        for (int i = 0; i < answers.size(); i++) {
            String call = calls.get(i) + " in README.md, which shows " + due.get(i) + ", answers " + answers.get(i);
            Session.due(call, answers.get(i).equals(due.get(i)), true);
        }
    }

    @SuppressWarnings("unchecked")
    private List<String> answers() throws ReflectiveOperationException, IOException {
        Path file = FOLDER.resolve("ReadmeShown.java");
        Files.createDirectories(FOLDER);
        Files.writeString(file, "public class ReadmeShown implements java.util.function.Supplier<java.util.List<String>> {\n"
            + "public java.util.List<String> get() {\n"
            + "java.util.List<String> answers = new java.util.ArrayList<>();\n" + statements + "return answers;\n}\n"
            + methods + "}\n");
        JavaCompiler compiler = ToolProvider.getSystemJavaCompiler();
        int fault = compiler.run(null, null, null, "-proc:none", "-cp", System.getProperty("java.class.path"),
            "-d", FOLDER.toString(), file.toString());
        Session.due("README.md's lines compile", fault, 0);
        if (fault != 0) {
            return List.of();
        }
        try (URLClassLoader loader = new URLClassLoader(new URL[] {FOLDER.toUri().toURL()})) {
            Object shown = loader.loadClass("ReadmeShown").getConstructor().newInstance();
            return ((Supplier<List<String>>) shown).get();
        }
    }
}
