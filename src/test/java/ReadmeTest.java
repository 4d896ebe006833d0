import java.io.IOException;
import java.nio.charset.StandardCharsets;
import java.nio.file.Files;
import java.nio.file.Path;
import java.util.ArrayList;
import java.util.Comparator;
import java.util.List;
import java.util.regex.Matcher;
import java.util.regex.Pattern;
import java.util.stream.Stream;

/** What README.md says of the class is so: its tables of the calls, its program and its commands. */
public final class ReadmeTest {
    private static final Pattern FACE = Pattern.compile("(?m)^    public (\\w+ \\w+\\(.*\\)(?: throws .*)?);$");
    private static final Pattern PROMISE = Pattern.compile("(?ms)^`([^`\n]*)`: (.*?)(?=^## |\\z)");
    private static final Pattern THROWS = Pattern.compile("(?m)^Throws (.*)$");
    private static final Pattern ROW = Pattern.compile("(?m)^\\| `(\\w+ \\w+\\([^`]*\\))` \\| .* \\| (.*) \\|$");
    private static final Pattern THROWN = Pattern.compile("`(\\w+Exception)`");
    private static final Pattern BLOCK = Pattern.compile("(?ms)^```(\\w+)\n(.*?)^```$");
    private static final Pattern PROGRAM = Pattern.compile("public final class (\\w+)");

    public static void main(String[] args) throws IOException, InterruptedException {
        String document = Files.readString(Path.of(args[1]));
        String readme = Files.readString(Path.of(args[2]));
        calls(document, readme);
        conditions(document, readme);
        blocks(readme, Path.of(args[2]).toAbsolutePath().getParent(), Path.of(args[1]).toAbsolutePath().getParent());
        Checks.end();
    }

    /** The rows of the tables are the document's face: each call, in its order, and what it throws. */
    private static void calls(String document, String readme) {
        List<String> due = new ArrayList<>();
        Matcher face = FACE.matcher(document);
        while (face.find()) {
            due.add(face.group(1));
        }
        List<String> told = new ArrayList<>();
        Matcher row = ROW.matcher(readme);
        while (row.find()) {
            List<String> thrown = new ArrayList<>();
            Matcher exception = THROWN.matcher(row.group(2));
            while (exception.find()) {
                thrown.add(exception.group(1));
            }
            told.add(row.group(1) + (thrown.isEmpty() ? "" : " throws " + String.join(", ", thrown)));
        }
        Checks.same("the document's face has calls", due.size() > 20, true);
        Checks.same("the calls of README.md", told, due);
    }

    /** When a call throws is told in the document's words; "there are 6" says of what. */
    private static void conditions(String document, String readme) {
        Matcher row = ROW.matcher(readme);
        while (row.find()) {
            List<String> due = new ArrayList<>();
            Matcher promise = PROMISE.matcher(document);
            while (promise.find()) {
                if (promise.group(1).replaceFirst(" throws .*", "").equals(row.group(1))) {
                    Matcher line = THROWS.matcher(promise.group(2));
                    while (line.find()) {
                        due.add(line.group(1));
                    }
                }
            }
            String told = row.group(2).replaceAll(" 6 (FRAMES|EDITS|FILES)$", " 6");
            Checks.same("when " + row.group(1) + " throws", told, due.isEmpty() ? "nothing" : String.join("; ", due));
        }
    }

    /** Programs are written as files, commands run, and what they print is what the block behind them says. */
    private static void blocks(String readme, Path root, Path shared) throws IOException, InterruptedException {
        Path place = Files.createTempDirectory("readme");
        Path work = Files.createDirectory(place.resolve("main"));
        Files.createSymbolicLink(place.resolve("shared"), shared);
        Files.createSymbolicLink(work.resolve("src"), root.resolve("src"));
        Files.createSymbolicLink(work.resolve("README.md"), root.resolve("README.md"));
        String printed = "";
        int commands = 0;
        Matcher block = BLOCK.matcher(readme);
        while (block.find()) {
            String text = block.group(2);
            if (block.group(1).equals("java")) {
                Matcher program = PROGRAM.matcher(text);
                Checks.same("a program has a name", program.find(), true);
                Files.writeString(work.resolve(program.group(1) + ".java"), text);
            } else if (block.group(1).equals("text")) {
                Checks.same("printed", printed, text);
            } else if (text.equals(".ci/run\n")) {
                Checks.same(".ci/run can be run", Files.isExecutable(root.resolve(".ci/run")), true);
            } else {
                printed = run(work, text);
                commands++;
            }
        }
        Checks.same("commands", commands, 3);
        remove(place);
    }

    private static void remove(Path place) throws IOException {
        try (Stream<Path> files = Files.walk(place)) {
            for (Path path : files.sorted(Comparator.reverseOrder()).toList()) {
                Files.delete(path);
            }
        }
    }

    private static String run(Path work, String commands) throws IOException, InterruptedException {
        Process process = new ProcessBuilder("sh", "-e", "-c", commands).directory(work.toFile())
            .redirectErrorStream(true).start();
        String printed = new String(process.getInputStream().readAllBytes(), StandardCharsets.UTF_8);
        Checks.same(commands + "printed " + printed + "and ended with", process.waitFor(), 0);
        return printed;
    }
}
