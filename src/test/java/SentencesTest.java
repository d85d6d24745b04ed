import java.nio.file.Files;
import java.nio.file.Path;

/** Each sentence of the document that names a boundary case, with the promise and the words. */
public final class SentencesTest {
    public static void main(String[] args) throws Exception {
        Book book = new Book(Files.readString(Path.of(System.getProperty("document", "../shared/DOC.md"))));
        new FieldSentences(book).run();
        new TextSentences(book).run();
        new BargainSentences(book).run();
        new FairSentences(book).run();
        new StepSentences(book).run();
        new PostSentences(book).run();
        new SheetSentences(book).run();
        new RefusalSentences(book).run();
        book.end();
    }
}
