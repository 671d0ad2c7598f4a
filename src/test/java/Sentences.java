import java.io.IOException;
import java.nio.file.Files;
import java.nio.file.Path;

/** Answers that are due by a sentence of the document, which stands before them in its own words. */
final class Sentences {
    private final Checks checks = new Checks();
    private final String document;
    private String sentence = "";

    Sentences() throws IOException {
        document = Files.readString(Path.of("../shared/DOC.md")).replaceAll("\\s+", " ");
    }

    /** What follows is asked by these words; a sentence that the document does not say asks for nothing. */
    void by(String words) {
        sentence = words;
        checks.due("the document says \"" + words + "\"", document.contains(words), true);
    }

    void due(String call, long got, long want) {
        checks.due("\"" + sentence + "\": " + call, got, want);
    }

    void due(String call, boolean got, boolean want) {
        due(call, got ? 1 : 0, want ? 1 : 0);
    }

    void close() {
        checks.close();
    }
}
