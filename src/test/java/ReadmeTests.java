import java.io.IOException;
import java.lang.invoke.MethodHandles;
import java.lang.reflect.Method;
import java.lang.reflect.Modifier;
import java.net.URI;
import java.nio.file.Files;
import java.nio.file.Path;
import java.util.ArrayList;
import java.util.List;
import java.util.regex.Matcher;
import java.util.regex.Pattern;
import java.util.stream.Stream;
import javax.tools.JavaCompiler;
import javax.tools.JavaFileObject;
import javax.tools.SimpleJavaFileObject;
import javax.tools.ToolProvider;

/**
 * README.md: what it shows as Java is compiled and run as one program, in its order, and each call with
 * an answer behind it must give that answer; each call of the face and each test is named.
 */
public final class ReadmeTests {
    private static final Pattern BLOCK = Pattern.compile("^```java\\n(.*?)^```$", Pattern.MULTILINE | Pattern.DOTALL);
    private static final Pattern SHOWN = Pattern.compile("^((?:x\\.\\w+|tell)\\(.*\\)); +// (NONE|true|false|-?\\d+)(?:: .*)?$");

    public static void main(String[] args) throws Exception {
        String readme = Files.readString(Path.of("README.md"));
        namesAllCalls(readme);
        namesAllTests(readme);
        run(program(readme));
        Checks.done();
    }

    /** With as many arguments as it takes: `call(what)`. */
    private static void namesAllCalls(String readme) {
        for (Method m : StinkhornParish.class.getDeclaredMethods()) {
            if (!Modifier.isPublic(m.getModifiers())) continue;
            String arguments = m.getParameterCount() == 0 ? "" : "\\w+(, \\w+){" + (m.getParameterCount() - 1) + "}";
            // In a row of a table, so that something is said of it behind.
            Pattern row = Pattern.compile("^\\|[^|]*`" + m.getName() + "\\(" + arguments + "\\)`[^|]*\\| \\w", Pattern.MULTILINE);
            Checks.due("README.md tells of " + m.getName(), row.matcher(readme).find(), true);
        }
    }

    private static void namesAllTests(String readme) throws IOException {
        try (Stream<Path> files = Files.list(Path.of("src/test/java"))) {
            for (Path file : files.toList()) {
                String name = file.getFileName().toString().replace(".java", "");
                if (name.endsWith("Tests")) Checks.due("README.md tells of " + name, readme.contains("- `" + name + "`: "), true);
            }
        }
    }

    private static String program(String readme) {
        StringBuilder methods = new StringBuilder();
        StringBuilder calls = new StringBuilder();
        Matcher blocks = BLOCK.matcher(readme);
        int shown = 0;
        while (blocks.find()) {
            if (blocks.group(1).startsWith("static ")) {
                methods.append(blocks.group(1));
                continue;
            }
            for (String line : blocks.group(1).split("\n")) {
                Matcher call = SHOWN.matcher(line);
                boolean has = call.matches();
                Checks.due("an answer behind " + line, has || !line.matches("(x\\.|tell\\().*"), true);
                calls.append(has ? asked(call.group(1), call.group(2)) : line).append("\n");
                shown += has ? 1 : 0;
            }
        }
        Checks.due("calls that README.md shows (" + shown + ") are many", shown > 50, true);
        return "final class ReadmeRun {\n" + methods + "static void run() {\n" + calls + "}\n}\n";
    }

    private static String asked(String call, String answer) {
        String told = "README.md: " + call.replace("\\", "\\\\").replace("\"", "\\\"");
        return "Checks.due(\"" + told + "\", " + call + ", " + answer.replace("NONE", "StinkhornParish.NONE") + ");";
    }

    private static void run(String source) throws Exception {
        Path to = Files.createTempDirectory("readme");
        JavaFileObject file = new SimpleJavaFileObject(URI.create("string:///ReadmeRun.java"), JavaFileObject.Kind.SOURCE) {
            @Override public CharSequence getCharContent(boolean ignore) {
                return source;
            }
        };
        JavaCompiler compiler = ToolProvider.getSystemJavaCompiler();
        List<String> options = List.of("-proc:none", "-d", to.toString(), "-cp", System.getProperty("java.class.path"));
        boolean compiled = compiler.getTask(null, null, null, options, null, new ArrayList<>(List.of(file))).call();
        Checks.due("README.md's Java can be compiled", compiled, true);
        Path made = to.resolve("ReadmeRun.class");
        if (compiled) {
            // Not by another loader: Checks is open to classes of the same one alone.
            Class<?> program = MethodHandles.lookup().defineClass(Files.readAllBytes(made));
            Method run = program.getDeclaredMethod("run");
            run.setAccessible(true);
            run.invoke(null);
            Files.delete(made);
        }
        Files.delete(to);
    }
}
