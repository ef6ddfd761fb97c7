import java.io.IOException;
import java.nio.file.Files;
import java.nio.file.Path;

/**
 * The document, gone through piece by piece from one place of it to another. A piece is what a test of
 * its own stands for, or is passed over because it tells of no call; a piece that is left out is a
 * wrong answer, for then a sentence has no test. Where there is no document beside the project, the
 * tests are run without comparing.
 */
final class Document {
    private static final Path PLACE = Path.of("../shared/DOC.md");

    private final Due due;
    /** With one blank for each row of blanks and line ends; null, if there is no document. */
    private final String text;
    private int place = 0;
    private String piece = "";

    Document(Due due) throws IOException {
        this.due = due;
        text = Files.exists(PLACE) ? Files.readString(PLACE).replaceAll("\\s+", " ").trim() + " " : null;
        if (text == null) {
            System.out.println("no document to compare with: " + PLACE);
        }
    }

    /** The document goes on with this piece, and the test asks for what it says. */
    void says(String next, Runnable test) {
        passes(next);
        piece = next;
        int asked = due.asked();
        test.run();
        due.holds("'" + next + "' has a test", due.asked() > asked);
    }

    /** The document goes on with this piece, that tells of no call. */
    void passes(String next) {
        if (text == null) {
            return;
        }
        int end = Math.min(text.length(), place + next.length() + 1);
        String there = text.substring(place, end);
        due.holds("the document goes on with '" + there + "', not with '" + next + "'", there.equals(next + " "));
        place = end;
    }

    /** The document goes on up to these words with what tells of no call, or has its tests elsewhere. */
    void passesUpTo(String words) {
        if (text == null) {
            return;
        }
        int next = text.indexOf(words, place);
        due.holds("the document goes on to '" + words + "'", next >= 0);
        place = Math.max(next, place);
    }

    /** Behind the last piece the document goes on with these words, so that none was left out. */
    void goesOnWith(String words) {
        due.holds("the document goes on with '" + words + "'", text == null || text.startsWith(words, place));
    }

    /** An answer that the piece at hand asks for. */
    void is(String what, long got, long want) {
        due.is("'" + piece + "': " + what, got, want);
    }
}
