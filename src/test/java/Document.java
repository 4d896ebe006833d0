import java.io.IOException;
import java.nio.file.Files;
import java.nio.file.Path;
import java.util.LinkedHashMap;
import java.util.Map;
import java.util.regex.Matcher;
import java.util.regex.Pattern;

/**
 * The document, of which each sentence that names a boundary has a test of its own: a test quotes
 * its sentence here, and at the end those are told that no test has quoted.
 */
final class Document {
    private static final Pattern HEADING = Pattern.compile("(?:##|==) (.*)");
    private static final Pattern SENTENCE = Pattern.compile("(?:[^.;\\n]|[.;](?![ \\n]|$))+");
    private static final Pattern BOUNDARY = Pattern.compile("[0-9]|\\b(?:NONE|none|no|not|if|at most|at least|first"
        + "|most|least|greatest|smallest|nearest|latest|older|later|now|then|before|behind|ahead|same|alone|whole|cut"
        + "|wraps|room|with it|without|changes?|never|wrong|each|all|any|sum|how many|counted|as they are)\\b");
    private static final Pattern PLAIN = Pattern.compile("\\s*(?:```.*|The inside of a camera.*|Its calls: .*"
        + "|and one asks for .*|what later calls answer is free|Ahead of the calls .*|- `\\w+`: [^0-9()]*)");
    private static final Pattern FACE = Pattern.compile("(?m)^`[^`]*`: (?:- `frame`: a FRAME)?");

    private final Map<String, String> texts = new LinkedHashMap<>();
    private final Map<String, boolean[]> quoted = new LinkedHashMap<>();

    Document(Path path) throws IOException {
        if (!Files.exists(path)) {
            System.out.println(path + " is not here: the quotes of it stay unlooked at");
            return;
        }
        String heading = "";
        for (String line : Files.readAllLines(path)) {
            Matcher matcher = HEADING.matcher(line);
            if (matcher.matches()) {
                heading = matcher.group(1);
            } else {
                texts.merge(heading, line + "\n", String::concat);
            }
        }
        texts.forEach((at, text) -> quoted.put(at, new boolean[text.length()]));
    }

    /** Runs the test of one sentence (or of a part of it, where it names several boundaries). */
    void says(String heading, String sentence, Runnable test) {
        quote(heading, sentence);
        Checks.about(heading + ", \"" + sentence + "\": ");
        int made = Checks.made();
        test.run();
        Checks.same("the test looks at something", Checks.made() > made, true);
        Checks.about("");
    }

    private void quote(String heading, String sentence) {
        if (texts.isEmpty()) {
            return;
        }
        String text = texts.getOrDefault(heading, "");
        int at = text.indexOf(sentence);
        Checks.same(heading + " says \"" + sentence + "\"", at >= 0, true);
        for (int k = 0; at >= 0 && k < sentence.length(); k++) {
            quoted.get(heading)[at + k] = true;
        }
    }

    /** Each row of what a call throws, and each sentence that names a boundary, has been quoted. */
    void end() {
        for (Map.Entry<String, String> section : texts.entrySet()) {
            String heading = section.getKey();
            if (heading.equals("The public face") || heading.equals("Not promised")) {
                continue;
            }
            Matcher matcher = SENTENCE.matcher(FACE.matcher(section.getValue()).replaceAll(m -> " ".repeat(m.group().length())));
            while (matcher.find()) {
                String sentence = matcher.group();
                if (BOUNDARY.matcher(sentence).find() && !PLAIN.matcher(sentence).matches()) {
                    Checks.same("a test quotes " + heading + ", \"" + sentence.strip() + "\"",
                        isQuoted(heading, matcher.start(), matcher.end()), true);
                }
            }
        }
    }

    private boolean isQuoted(String heading, int from, int to) {
        for (int k = from; k < to; k++) {
            if (quoted.get(heading)[k]) {
                return true;
            }
        }
        return false;
    }
}
