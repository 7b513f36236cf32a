import java.io.IOException;
import java.nio.file.Files;
import java.nio.file.Path;

/** The edges of one sentence of the document; a wrong answer is told with that sentence. */
final class Edge {
    private static String document;

    private final String sentence;

    Edge(String sentence) {
        this.sentence = sentence;
        Check.due("the document has \"" + sentence + "\"", () -> document().isEmpty() || document().contains(sentence) ? 1 : 0, 1);
    }

    /** Empty where the document is not beside the project: the answers that are due stand without it. */
    private static String document() {
        if (document == null) {
            Path path = Path.of("../shared/DOC.md");
            try {
                document = Files.isReadable(path) ? Files.readString(path) : "";
            } catch (IOException e) {
                document = "";
            }
        }
        return document;
    }

    void due(String what, Check.Call call, long want) {
        Check.due("\"" + sentence + "\": " + what, call, want);
    }

    void missing(String what, Check.Call call) {
        Check.due("\"" + sentence + "\": " + what, call, Check.MISSING);
    }

    void argument(String what, Check.Call call) {
        Check.due("\"" + sentence + "\": " + what, call, Check.ARGUMENT);
    }

    void state(String what, Check.Call call) {
        Check.due("\"" + sentence + "\": " + what, call, Check.STATE);
    }

    /** What a new object answers to a text that is the whole tape but for bytes 0 behind it. */
    void text(String text, int answer, int place) {
        TabledGoals x = new TabledGoals();
        Check.bring(x, text);
        due("text of \"" + text + "\"", () -> x.text(text.length()), answer);
        due("fault() of \"" + text + "\"", x::fault, place);
    }

    void right(String text, int clauses) {
        text(text, clauses, -1);
    }
}
