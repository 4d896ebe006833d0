import java.io.IOException;
import java.nio.file.Files;
import java.nio.file.Path;
import java.util.LinkedHashMap;
import java.util.Map;
import java.util.regex.Matcher;
import java.util.regex.Pattern;

/**
 * The document, of which each sentence has a test of its own: a test quotes its sentence here, and
 * at the end those words are told that no test has quoted.
 */
final class Document {
    private static final Pattern HEADING = Pattern.compile("(?:##|==) (.*)");
    // What is no promise: the title, what the document is about, and the calls told once more in words.
    private static final Pattern FREE = Pattern.compile("(?m)^# .*|^The inside of a camera.*"
        + "|; what later calls answer is free\\.|^Its calls: .*|^```\\w*");
    // FaceTest looks at the faces of the calls.
    private static final Pattern FACE = Pattern.compile("(?m)^`[^`]*`: ");
    private static final Pattern RUN = Pattern.compile("[^\\n\\x00]*[A-Za-z0-9][^\\n\\x00]*");

    private final Map<String, String> texts = new LinkedHashMap<>();
    private final Map<String, boolean[]> quoted = new LinkedHashMap<>();

    Document(Path path) throws IOException {
        if (!Files.exists(path)) {
            System.out.println(path + " is not here: the quotes of it stay unlooked at");
            return;
        }
        String heading = "";
        for (String line : Files.readAllLines(path)) {
            Matcher matcher = HEADING.matcher(line);
            if (matcher.matches()) {
                heading = matcher.group(1);
            } else {
                texts.merge(heading, line + "\n", String::concat);
            }
        }
        texts.forEach((at, text) -> quoted.put(at, new boolean[text.length()]));
    }

    /** Runs the test of one sentence (or of a part of it, where it names several boundaries). */
    void says(String heading, String sentence, Runnable test) {
        quote(heading, sentence);
        Checks.about(heading + ", \"" + sentence + "\": ");
        int made = Checks.made();
        test.run();
        Checks.same("the test looks at something", Checks.made() > made, true);
        Checks.about("");
    }

    private void quote(String heading, String sentence) {
        if (texts.isEmpty()) {
            return;
        }
        String text = texts.getOrDefault(heading, "");
        int at = text.indexOf(sentence);
        Checks.same(heading + " says \"" + sentence + "\"", at >= 0, true);
        for (int k = 0; at >= 0 && k < sentence.length(); k++) {
            quoted.get(heading)[at + k] = true;
        }
    }

    /** Each word of the document, from its first line to its last, has been quoted by a test. */
    void end() {
        for (Map.Entry<String, String> section : texts.entrySet()) {
            String heading = section.getKey();
            if (heading.equals("The public face") || heading.equals("Not promised")) {
                continue;
            }
            Matcher matcher = RUN.matcher(unquoted(section.getValue(), quoted.get(heading)));
            while (matcher.find()) {
                Checks.same("a test quotes " + heading + ", \"" + matcher.group().strip() + "\"", false, true);
            }
        }
    }

    private static String unquoted(String text, boolean[] isQuoted) {
        StringBuilder left = new StringBuilder(text);
        for (int k = 0; k < isQuoted.length; k++) {
            if (isQuoted[k]) {
                left.setCharAt(k, '\0');
            }
        }
        for (Pattern pattern : new Pattern[] {FREE, FACE}) {
            Matcher matcher = pattern.matcher(text);
            while (matcher.find()) {
                left.replace(matcher.start(), matcher.end(), "\0".repeat(matcher.group().length()));
            }
        }
        return left.toString();
    }
}
