import java.io.IOException;
import java.net.URL;
import java.net.URLClassLoader;
import java.nio.file.Files;
import java.nio.file.Path;
import java.util.ArrayList;
import java.util.List;
import java.util.regex.MatchResult;
import java.util.regex.Pattern;
import java.util.stream.Stream;
import javax.tools.ToolProvider;

/** README.md: its example compiles and answers what stands beside each call; every call of the face is told there. */
public final class ReadmeTest {
    private static final Pattern EXAMPLE = Pattern.compile("```java\n(.*?)```", Pattern.DOTALL);
    /** A call on a line of its own, with its answer as the first word of the line's comment. */
    private static final Pattern ANSWERED = Pattern.compile("^(x\\..*);\\s+// (-?\\d+|LOST)\\b.*$", Pattern.MULTILINE);
    private static final Pattern FACE = Pattern.compile("public (?:int|long) (\\w+)\\((.*)\\);");

    public static void main(String[] args) throws Exception {
        String readme = Files.readString(Path.of("README.md"));
        everyCallIsTold(readme);
        howMuchIsTold(readme);
        List<String> examples = EXAMPLE.matcher(readme).results().map(r -> r.group(1)).toList();
        Due.is("examples", examples.size(), 1);
        for (String example : examples) {
            everyCommentIsTried(example);
            run(example);
        }
        Due.end("ReadmeTest");
    }

    private static void everyCallIsTold(String readme) throws IOException {
        List<MatchResult> face = FACE.matcher(Files.readString(Path.of("../shared/DOC.md"))).results().toList();
        Due.is("calls of the face", face.size(), 29);
        for (MatchResult call : face) {
            String given = call.group(2).replaceAll("\\b(int|long) ", "");
            String row = "| `" + call.group(1) + "(" + given + ")` |";
            Due.isSo("README.md tells " + row, readme.contains(row));
        }
    }

    private static void howMuchIsTold(String readme) {
        String[] told = {
            "at most 512 calls", "UNKNOWN: no such cell, span, helper, sheet | " + CappedRow.UNKNOWN + " |",
            "OUTSIDE: another number is not as it may be | " + CappedRow.OUTSIDE + " |",
            "STATE: not as things are now | " + CappedRow.STATE + " |", "FULL: no room for one more | " + CappedRow.FULL + " |",
            "fault 1 NULL: a sheet has nothing | " + Due.NULL + " |",
            "fault 2 CAST: of another lane, of another kind | " + Due.CAST + " |",
            "fault 3 INDEX: not all cells are there | " + Due.INDEX + " |",
            "fault 4 SIZE: a length below 0 | " + Due.SIZE + " |", "(NONE: " + CappedRow.NONE + ")",
            "`LOST` is `Long.MIN_VALUE`", ".ci/run"};
        for (String words : told) {
            Due.isSo("README.md says " + words, readme.contains(words));
        }
    }

    /** A comment whose first word is no answer would be read as one, but never tried. */
    private static void everyCommentIsTried(String example) {
        long comments = example.lines().filter(line -> line.contains("//")).count();
        Due.is("answers of the example", ANSWERED.matcher(example).results().count(), comments);
    }

    /** Each answer is gathered: another loader's class can't reach Due. */
    private static String asClass(String example) {
        String asked = ANSWERED.matcher(example).replaceAll("got.add((long) $1);");
        return "public final class ReadmeExample {\n    public static void run(java.util.List<Long> got) {\n"
            + asked + "    }\n}\n";
    }

    private static void run(String example) throws Exception {
        Path made = Files.createTempDirectory("readme");
        try {
            Path source = made.resolve("ReadmeExample.java");
            Files.writeString(source, asClass(example));
            int compiled = ToolProvider.getSystemJavaCompiler().run(null, null, null, "-cp",
                System.getProperty("java.class.path"), "-d", made.toString(), source.toString());
            Due.is("compiling the example", compiled, 0);
            if (compiled == 0) {
                compare(ANSWERED.matcher(example).results().toList(), answers(made));
            }
        } finally {
            remove(made);
        }
    }

    private static List<Long> answers(Path made) throws Exception {
        List<Long> got = new ArrayList<>();
        try (URLClassLoader loader = new URLClassLoader(new URL[] {made.toUri().toURL()})) {
            loader.loadClass("ReadmeExample").getMethod("run", List.class).invoke(null, got);
        }
        return got;
    }

    private static void compare(List<MatchResult> calls, List<Long> got) {
        Due.is("calls of the example that were run", got.size(), calls.size());
        for (int c = 0; c < calls.size() && c < got.size(); c++) {
            String due = calls.get(c).group(2);
            Due.is("README.md, " + calls.get(c).group(1), got.get(c), due.equals("LOST") ? Due.LOST : Long.parseLong(due));
        }
    }

    private static void remove(Path directory) throws IOException {
        List<Path> files = new ArrayList<>();
        try (Stream<Path> all = Files.list(directory)) {
            all.forEach(files::add);
        }
        for (Path file : files) {
            Files.delete(file);
        }
        Files.delete(directory);
    }
}
