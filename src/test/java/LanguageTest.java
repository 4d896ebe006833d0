import java.io.IOException;
import java.nio.file.Files;
import java.nio.file.Path;
import java.util.Set;
import java.util.TreeSet;
import java.util.regex.Matcher;
import java.util.regex.Pattern;

/** Looks in the source for what ../shared/LANGUAGE.md leaves out and a search can find. */
public final class LanguageTest {
    private static final String[] OUT = {
        "->", "::", "\\bimport\\b", "\\bpackage\\b", "\\bfinally\\b", "\\bsynchronized\\b",
        "\\bassert\\b", "\\bvar\\b", "\\bSystem\\.(?!arraycopy)", "\\bThread\\b", "Exact\\b", "\\bMath\\.(?!abs|max|min)",
        "\\bInteger\\.(?!bitCount)", "\\bgetMessage\\b", "\\btoString\\b", "\\bhashCode\\b",
        "\"\\s*\\+", "\\+\\s*\"", "[^\\x00-\\x7f]", "static\\s*\\{",
    };
    private static final Set<String> THROWN =
        Set.of("IllegalStateException", "IllegalArgumentException", "IndexOutOfBoundsException");
    private static final int MOST_LINES = 60;

    public static void main(String[] args) throws IOException {
        String source = Files.readString(Path.of(args[0]));
        String code = source.replaceAll("(?s)/\\*.*?\\*/", "").replaceAll("//[^\n]*", "");
        for (String out : OUT) {
            Matcher matcher = Pattern.compile(out).matcher(code);
            Checks.same("the source holds " + out, matcher.find() ? matcher.group() : null, null);
        }
        throwsOf(code);
        methodsOf(source);
        Checks.end();
    }

    private static void throwsOf(String code) {
        Set<String> thrown = new TreeSet<>();
        Matcher matcher = Pattern.compile("throw ([^;]*);").matcher(code);
        while (matcher.find()) {
            Matcher written = Pattern.compile("new (\\w+)\\((\"[^\"]*\")?\\)").matcher(matcher.group(1));
            Checks.same("written: " + matcher.group(1), written.matches(), true);
            thrown.add(written.matches() ? written.group(1) : matcher.group(1));
        }
        Checks.same("thrown", THROWN.containsAll(thrown), true);
    }

    private static void methodsOf(String source) {
        Matcher matcher = Pattern.compile("(?m)^( +)[\\w\\[\\]<> ]+\\([^;{]*\\{\n(?s:.*?)^\\1\\}").matcher(source);
        int count = 0;
        while (matcher.find()) {
            count++;
            long lines = matcher.group().lines().count();
            Checks.same("short: " + matcher.group().lines().findFirst().orElse(""), lines <= MOST_LINES, true);
        }
        Checks.same("methods are found", count > 40, true);
    }
}
