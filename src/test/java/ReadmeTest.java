import java.io.File;
import java.io.IOException;
import java.lang.reflect.Method;
import java.lang.reflect.Modifier;
import java.net.URL;
import java.net.URLClassLoader;
import java.nio.file.Files;
import java.nio.file.Path;
import java.util.List;
import java.util.regex.Matcher;
import java.util.regex.Pattern;
import javax.tools.ToolProvider;

/**
 * The calls of README.md, compiled and made as they stand there, have the answers that stand behind them;
 * run from the project's folder.
 */
public final class ReadmeTest {
    private static final Pattern BLOCK = Pattern.compile("(?s)```java\\n(.*?)```");
    private static final Pattern ANSWERED = Pattern.compile(
            "(int (\\w+) = )?(house\\.\\w+\\(.*\\)); *// (-?\\d+|true|false|NONE|VOID)(:.*)?");
    private static final Pattern CALL = Pattern.compile("\\bhouse\\.(\\w+)\\(");

    private ReadmeTest() {
    }

    public static void main(String[] args) throws IOException, ReflectiveOperationException {
        String readme = Files.readString(Path.of("README.md"));
        StringBuilder body = new StringBuilder();
        StringBuilder calls = new StringBuilder();
        Matcher block = BLOCK.matcher(readme);
        while (block.find()) {
            for (String line : block.group(1).split("\n")) {
                body.append(asked(line)).append('\n');
                calls.append(line).append('\n');
            }
        }
        eachMethodIsShown(calls.toString());
        for (Object[] answer : answers(body.toString())) {
            Check.due("README.md: " + answer[0], (Long) answer[1], (Long) answer[2]);
        }
        Check.close();
    }

    /** The line, with its answer put down; only in a loop may calls stand without one. */
    private static String asked(String line) {
        Matcher m = ANSWERED.matcher(line);
        if (!m.matches()) {
            boolean silent = line.startsWith(" ") || line.startsWith("//") || !CALL.matcher(line).find();
            Check.due("README.md has no answer: " + line, silent, true);
            return line;
        }
        String got = m.group(2) == null ? m.group(3) : m.group(2);
        String declared = m.group(2) == null ? "" : m.group(1) + m.group(3) + "; ";
        String quoted = m.group(3).replace("\"", "\\\"");
        return declared + "put(\"" + quoted + "\", " + got + ", " + m.group(4) + ");";
    }

    private static void eachMethodIsShown(String calls) {
        for (Method method : TableHouse.class.getDeclaredMethods()) {
            if (Modifier.isPublic(method.getModifiers())) {
                boolean shown = calls.contains("house." + method.getName() + "(");
                Check.due("README.md shows " + method.getName(), shown, true);
            }
        }
    }

    @SuppressWarnings("unchecked")
    private static List<Object[]> answers(String body) throws IOException, ReflectiveOperationException {
        Path folder = Files.createTempDirectory("readme");
        Path source = folder.resolve("Readme.java");
        Files.writeString(source, "public final class Readme {\n"
                + "static final int NONE = TableHouse.NONE;\nstatic final int VOID = TableHouse.VOID;\n"
                + "static final java.util.List<Object[]> ALL = new java.util.ArrayList<>();\n"
                + "static void put(String call, long got, long want) { ALL.add(new Object[] {call, got, want}); }\n"
                + "static void put(String call, boolean got, boolean want) { put(call, got ? 1 : 0, want ? 1 : 0); }\n"
                + "public static java.util.List<Object[]> run() {\n" + body + "return ALL;\n}\n}\n");
        int wrong = ToolProvider.getSystemJavaCompiler().run(null, null, null,
                "-cp", System.getProperty("java.class.path"), "-d", folder.toString(), source.toString());
        Check.due("README.md compiles", wrong, 0);
        try (URLClassLoader loader = new URLClassLoader(new URL[] {folder.toUri().toURL()})) {
            return (List<Object[]>) loader.loadClass("Readme").getMethod("run").invoke(null);
        } finally {
            for (File file : folder.toFile().listFiles()) {
                file.delete();
            }
            folder.toFile().delete();
        }
    }
}
