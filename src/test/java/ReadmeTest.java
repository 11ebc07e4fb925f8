import java.net.URL;
import java.net.URLClassLoader;
import java.nio.file.Files;
import java.nio.file.Path;
import java.util.List;
import java.util.concurrent.Callable;
import java.util.function.BiConsumer;
import java.util.regex.Matcher;
import java.util.regex.Pattern;
import javax.tools.ToolProvider;

/** Compiles the examples of README.md, runs them, and compares the answers that stand behind the calls. */
public final class ReadmeTest {
    private static final Pattern CALL = Pattern.compile(
        "(int (\\w+) = )?(house\\.\\w+\\(.*\\)); +// (?:throws )?(-?\\d+|NONE|\\w+Exception)(: .+)?");
    private static final Pattern NO_CALL = Pattern.compile("CottageWeeks house = new CottageWeeks\\(\\);|for \\(.*");
    private static final String NAME = "ReadmeExamples";

    private final Check check = new Check();
    private final List<String> lines;
    private final StringBuilder source = new StringBuilder();
    private int examples;
    private int calls;

    private ReadmeTest(List<String> lines) {
        this.lines = lines;
    }

    public static void main(String[] args) throws Exception {
        ReadmeTest test = new ReadmeTest(Files.readAllLines(Path.of("README.md")));
        test.writeSource();
        test.run(test.compiled());
        test.check.due("there are examples", true, test.examples > 0);
        test.check.end();
    }

    /** Each example becomes a method, that tells the line of each call, and the call. */
    private void writeSource() {
        source.append("public final class ").append(NAME).append(" {\n");
        boolean inside = false;
        for (int i = 0; i < lines.size(); i++) {
            String line = lines.get(i);
            if (line.startsWith("```")) {
                check.due(place(i) + "a block begins as java", inside ? "```" : "```java", line);
                inside = !inside;
                source.append(inside ? "public static void example" + examples++ + "(java.util.function.BiConsumer"
                    + "<Integer, java.util.concurrent.Callable<Integer>> told) {\n" : "}\n");
            } else if (inside) {
                writeLine(i, line);
            }
        }
        check.due("the last block ends", false, inside);
        source.append("}\n");
    }

    private void writeLine(int i, String line) {
        Matcher call = CALL.matcher(line);
        if (call.matches()) {
            calls++;
            String value = call.group(3);
            if (call.group(2) != null) {
                source.append(call.group(1)).append(value).append(";\n");
                value = call.group(2);
            }
            source.append("told.accept(").append(i).append(", () -> ").append(value).append(");\n");
        } else {
            check.due(place(i) + "the call has its answer: " + line, true, NO_CALL.matcher(line).matches());
            source.append(line).append('\n');
        }
    }

    private Class<?> compiled() throws Exception {
        Path folder = Files.createTempDirectory("readme");
        Path file = folder.resolve(NAME + ".java");
        Files.writeString(file, source);
        String path = System.getProperty("java.class.path");
        int code = ToolProvider.getSystemJavaCompiler().run(null, null, null, "-cp", path, file.toString());
        check.due("the examples compile", 0, code);
        Class<?> loaded = null;
        if (code == 0) {
            try (URLClassLoader loader = new URLClassLoader(new URL[] {folder.toUri().toURL()})) {
                loaded = loader.loadClass(NAME);
            }
        }
        for (String ending : new String[] {".java", ".class"}) {
            Files.deleteIfExists(folder.resolve(NAME + ending));
        }
        Files.delete(folder);
        return loaded;
    }

    private void run(Class<?> compiled) throws Exception {
        int[] told = new int[1];
        BiConsumer<Integer, Callable<Integer>> compare = (i, call) -> {
            told[0]++;
            compare(i, call);
        };
        for (int example = 0; compiled != null && example < examples; example++) {
            compiled.getMethod("example" + example, BiConsumer.class).invoke(null, compare);
        }
        check.due("each call is made", calls, told[0]);
    }

    private void compare(int i, Callable<Integer> call) {
        Matcher shown = CALL.matcher(lines.get(i));
        String want = shown.matches() ? shown.group(4) : "";
        check.due(place(i) + lines.get(i), want.equals("NONE") ? "-1" : want, Check.answer(call));
    }

    private static String place(int i) {
        return "README.md, line " + (i + 1) + ": ";
    }
}
