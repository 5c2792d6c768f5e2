import java.io.IOException;
import java.lang.reflect.Constructor;
import java.lang.reflect.Field;
import java.lang.reflect.Method;
import java.lang.reflect.Modifier;
import java.nio.file.Files;
import java.nio.file.Path;
import java.util.Set;
import java.util.TreeSet;
import java.util.regex.Matcher;
import java.util.regex.Pattern;

/** Rules of LANGUAGE.md that can be seen in the source and in the class; run from the project's folder. */
public final class LanguageTest {
    private static final Set<String> FACE = Set.of(
            "feed", "end", "fault", "sheet", "value", "go", "table", "exact", "hand", "habit", "would", "work", "figure", "pair",
            "engine", "stick", "turn", "column", "settings", "row", "lay", "clear", "suspects", "rivals", "middle", "bound", "set",
            "hard", "print", "mend", "read", "erratum", "misses", "known", "rival", "shared", "copied", "lead", "count");

    private static final Set<String> LIBRARY = Set.of(
            "Math.max", "Math.min", "Math.abs", "Math.floorDiv", "Math.floorMod", "Integer.bitCount", "Integer.compare", "Long.compare",
            "Arrays.copyOf", "Arrays.copyOfRange", "Arrays.fill", "System.arraycopy");

    public static void main(String[] args) throws IOException {
        String source = Files.readString(Path.of("src/main/java/TableHouse.java"));
        Check.due("signs beyond 127", source.chars().filter(c -> c > 127).count(), 0);
        String bare = source.replaceAll("(?s)/\\*.*?\\*/", " ").replaceAll("//[^\n]*", " ")
                .replaceAll("\"(\\\\.|[^\"\\\\])*\"", "\"\"").replaceAll("'(\\\\.|[^'\\\\])'", "'c'");
        words(bare);
        methods(bare);
        face();
        documentFace(source);
        nested();
        Check.close();
    }

    private static void words(String bare) {
        for (String word : new String[] {"throw", "throws", "try", "catch", "finally", "synchronized", "assert", "package", "record",
            "volatile", "native", "transient", "Object", "Map", "Random", "System.out", "Exact"}) {
            Check.due("word " + word, Pattern.compile("\\b" + word + "\\b").matcher(bare).find(), false);
        }
        for (String sign : new String[] {"->", "::", "@", "static {", "[][]["}) {
            Check.due("sign " + sign, bare.contains(sign), false);
        }
        Matcher imports = Pattern.compile("import ([^;]*);").matcher(bare);
        while (imports.find()) {
            Check.due("import " + imports.group(1), Set.of("java.util.Arrays", "java.util.ArrayList", "java.util.List").contains(imports.group(1)), true);
        }
        Matcher library = Pattern.compile("\\b(Math|Integer|Long|Arrays|System|String|List|Character|Boolean)\\.(\\w+)").matcher(bare);
        while (library.find()) {
            Check.due("library " + library.group(), LIBRARY.contains(library.group()), true);
        }
        Matcher classes = Pattern.compile("\\bclass \\w+").matcher(bare);
        int many = 0;
        while (classes.find()) {
            many++;
        }
        Check.due("at most twelve classes", many <= 12, true);
        Check.due("loops without a counter", Pattern.compile("\\b(while|do)\\b").matcher(bare).find(), false);
        Check.due("text joined by +", Pattern.compile("\"\"\\s*\\+|\\+\\s*\"\"").matcher(bare).find(), false);
    }

    private static void methods(String bare) {
        String[] lines = bare.split("\n");
        Pattern head = Pattern.compile("^( {4}| {8})(public |private )?(static )?[\\w\\[\\]]+ (\\w+)\\(([^)]*)\\) \\{$");
        for (int i = 0; i < lines.length; i++) {
            Matcher m = head.matcher(lines[i]);
            if (m.find()) {
                String name = m.group(4);
                boolean isPublic = "public ".equals(m.group(2));
                Check.due("name " + name, FACE.contains(name), isPublic);
                Check.due("parameters of " + name, m.group(5).split(",").length <= 7, true);
                int end = i;
                while (!lines[end].equals(m.group(1) + "}")) {
                    end++;
                }
                Check.due("lines of " + name, end - i <= 60, true);
            }
        }
    }

    private static void face() {
        Set<String> seen = new TreeSet<>();
        for (Method m : TableHouse.class.getDeclaredMethods()) {
            if (Modifier.isPublic(m.getModifiers())) {
                seen.add(m.getName());
            }
            Check.due("public or private: " + m, Modifier.isPublic(m.getModifiers()) || Modifier.isPrivate(m.getModifiers()), true);
        }
        Check.due("the face", seen.equals(new TreeSet<>(FACE)), true);
        Check.due("final", Modifier.isFinal(TableHouse.class.getModifiers()), true);
        for (Field f : TableHouse.class.getDeclaredFields()) {
            boolean constant = f.getName().equals("NONE") || f.getName().equals("VOID");
            Check.due("public: " + f, Modifier.isPublic(f.getModifiers()), constant);
            Check.due("private: " + f, Modifier.isPrivate(f.getModifiers()), !constant);
        }
        for (Constructor<?> c : TableHouse.class.getDeclaredConstructors()) {
            Check.due("public: " + c, Modifier.isPublic(c.getModifiers()) && c.getParameterCount() == 0, true);
        }
    }

    /** Each line of the document's face stands in the source as it stands there, and nothing else is public. */
    private static void documentFace(String source) throws IOException {
        String document = Files.readString(Path.of("../shared/DOC.md"));
        Matcher block = Pattern.compile("(?s)```java\\n(.*?)```").matcher(document);
        Check.due("the document has a face", block.find(), true);
        int members = 0;
        for (String line : block.group(1).split("\n")) {
            boolean constant = line.contains("=");
            boolean callable = line.endsWith(");");
            String wanted = callable ? line.substring(0, line.length() - 1) + " {\n" : line + "\n";
            Check.due("the source has: " + line, source.contains("\n" + wanted), true);
            members += constant || callable ? 1 : 0;
        }
        long found = source.lines().filter(line -> line.startsWith("    public ")).count();
        Check.due("public members", found, members);
    }

    private static void nested() {
        for (Class<?> c : TableHouse.class.getDeclaredClasses()) {
            Check.due("private and static: " + c, Modifier.isPrivate(c.getModifiers()) && Modifier.isStatic(c.getModifiers()), true);
            int fields = 0;
            for (Field f : c.getDeclaredFields()) {
                boolean isStatic = Modifier.isStatic(f.getModifiers());
                Check.due("static is final: " + f, !isStatic || Modifier.isFinal(f.getModifiers()), true);
                fields += isStatic ? 0 : 1;
            }
            Check.due("fields of " + c, fields <= 20, true);
        }
    }
}
