import java.io.IOException;
import java.nio.file.Files;
import java.nio.file.Path;
import java.util.ArrayList;
import java.util.List;
import java.util.regex.Matcher;
import java.util.regex.Pattern;

/**
 * The words of ../shared/DOC.md. Tests quote the words that they test, so that no test names words that
 * aren't there, and no words of the terms and of the promises are left without a test.
 */
final class Document {
    private static final int PROMISES = 40;
    /** Place 0 holds the terms, place n promise n; each letter of what was quoted is a blank in the second row. */
    private static final String[] WORDS = read();
    private static final char[][] LEFT = new char[PROMISES + 1][];

    static {
        for (int i = 0; i <= PROMISES; i++) {
            LEFT[i] = WORDS[i].toCharArray();
        }
    }

    private Document() {
    }

    private static String[] read() {
        String all;
        try {
            all = Files.readString(Path.of("../shared/DOC.md"));
        } catch (IOException e) {
            throw new IllegalStateException("no document", e);
        }
        String[] words = new String[PROMISES + 1];
        words[0] = plain(all.substring(all.indexOf("## Terms") + 8, all.indexOf("## Promise 1:")));
        Matcher m = Pattern.compile("(?s)## Promise (\\d+): [^\\n]*\\n\\s*`[^`]*`:(.*?)(?=\\n## )").matcher(all);
        while (m.find()) {
            words[Integer.parseInt(m.group(1))] = plain(m.group(2));
        }
        return words;
    }

    private static String plain(String words) {
        return words.replaceAll("```(text)?|==== \\d\\.", " ").replace("`", "").replaceAll("\\s+", " ").trim();
    }

    /** Words of a promise, or of the terms that it rests on. */
    static void quote(int promise, String words) {
        boolean found = mark(promise, words) || mark(0, words);
        Check.due("promise " + promise + ": the document says \"" + words + "\"", found, true);
    }

    private static boolean mark(int section, String words) {
        int at = WORDS[section].indexOf(words);
        for (int i = at; at >= 0 && i < at + words.length(); i++) {
            LEFT[section][i] = ' ';
        }
        return at >= 0;
    }

    static void nothingIsLeft() {
        for (int i = 0; i <= PROMISES; i++) {
            List<String> left = new ArrayList<>();
            for (String part : new String(LEFT[i]).split(" {2,}")) {
                if (part.matches(".*[A-Za-z0-9].*")) {
                    left.add(part.trim());
                }
            }
            Check.due((i == 0 ? "terms" : "promise " + i) + " without a test: " + left, left.size(), 0);
        }
    }
}
