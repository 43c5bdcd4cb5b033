import java.io.IOException;
import java.nio.file.Path;

/**
 * Each sentence of ../shared/DOC.md with a test of its own: the last values that are let and the first
 * ones that are not, what is empty and what is full, and that a refused call changes nothing. A sentence
 * of the document that no test quotes counts as a fault.
 */
public final class SentencesTest {
    private SentencesTest() {
    }

    public static void main(String[] args) throws IOException {
        Book book = new Book(Path.of("../shared/DOC.md"));
        new TextSentences(book).testAll();
        new HoldingSentences(book).testAll();
        new TypedSentences(book).testAll();
        new StoreSentences(book).testAll();
        new LetterSentences(book).testAll();
        new OutSentences(book).testAll();
        if (!book.close()) {
            System.exit(1);
        }
    }
}
