import java.io.IOException;
import java.nio.file.Files;
import java.nio.file.Path;
import java.util.HashMap;
import java.util.Map;
import java.util.regex.Matcher;
import java.util.regex.Pattern;

/**
 * The document's own words. A test quotes the sentence that it looks at; in the end each word of each
 * promise, and of the terms ahead of them, must have been quoted by one.
 */
final class Doc {
    static final int TERMS = 0;
    static final int PROMISES = 62;
    private static final Map<Integer, String> TEXTS = new HashMap<>();
    private static final Map<Integer, boolean[]> QUOTED = new HashMap<>();

    private Doc() { }

    static void read() throws IOException {
        String doc = Files.readString(Path.of("../shared/DOC.md"));
        put(TERMS, doc.substring(doc.indexOf("\n## Terms\n") + 10, doc.indexOf("\n## Promise 1:")).replace("```text", ""));
        Matcher promises = Pattern.compile("^## Promise (\\d+): .*\\n\\n`[^`]*`: (.*)$", Pattern.MULTILINE).matcher(doc);
        while (promises.find()) put(Integer.parseInt(promises.group(1)), promises.group(2));
        Checks.due("promises in the document", TEXTS.size() - 1, PROMISES);
    }

    private static void put(int where, String text) {
        TEXTS.put(where, text);
        QUOTED.put(where, new boolean[text.length()]);
    }

    /** What is asked from here on is asked because the document says these words there. */
    static void says(int where, String words) {
        Checks.sentence = (where == TERMS ? "Terms: " : "Promise " + where + ": ") + words;
        String text = TEXTS.get(where);
        boolean[] quoted = QUOTED.get(where);
        int at = text.indexOf(words);
        Checks.due("the document has these words", at >= 0, true);
        for (; at >= 0; at = text.indexOf(words, at + 1)) {
            for (int i = at; i < at + words.length(); i++) quoted[i] = true;
        }
    }

    static void terms(String words) {
        says(TERMS, words);
    }

    static void allQuoted() {
        for (int where = 0; where <= PROMISES; where++) {
            Checks.sentence = where == TERMS ? "Terms" : "Promise " + where;
            StringBuilder left = new StringBuilder();
            String text = TEXTS.get(where);
            boolean[] quoted = QUOTED.get(where);
            for (int i = 0; i < text.length(); i++) {
                boolean word = Character.isLetterOrDigit(text.charAt(i));
                if (!quoted[i] && word) left.append(text.charAt(i));
                else if (!quoted[i] && left.length() > 0 && left.charAt(left.length() - 1) != ' ') left.append(' ');
            }
            Checks.due("no test for: " + left, left.toString().isBlank(), true);
        }
        Checks.sentence = "";
    }
}
