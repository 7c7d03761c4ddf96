import java.io.IOException;
import java.io.UncheckedIOException;
import java.nio.file.Files;
import java.nio.file.Path;

/** The tests of one promise; each is named by those words of the document whose edges it tries. */
final class Promise {
    private static final Path DOCUMENT = Path.of("../shared/DOC.md");

    private final int number;
    /** What the document says ahead of all promises, and under this one. */
    private final String words;

    Promise(int number) {
        this.number = number;
        try {
            String document = Files.readString(DOCUMENT);
            String ahead = document.substring(0, document.indexOf("## Promise 1:"));
            int begin = document.indexOf("## Promise " + number + ":");
            int end = document.indexOf("\n## ", begin);
            words = inOneLine(ahead + " " + document.substring(begin, end));
        } catch (IOException e) {
            throw new UncheckedIOException(e);
        }
    }

    /** A test that is named by words that the document does not have would try something else. */
    void says(String sentence, Runnable test) {
        Due.begin("promise " + number + ", \"" + sentence + "\"");
        Due.isSo("the document says so", words.contains(inOneLine(sentence)));
        int before = Due.howManyAsked();
        test.run();
        Due.isSo("something was asked", Due.howManyAsked() > before);
    }

    void end() {
        Due.begin("promise " + number);
        Due.end(String.format("Promise%02dTest", number));
    }

    private static String inOneLine(String text) {
        return text.replaceAll("\\s+", " ");
    }
}
