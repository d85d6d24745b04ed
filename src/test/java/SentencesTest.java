import java.nio.file.Files;
import java.nio.file.Path;

/** Each sentence of the document that names a boundary case, with the promise and the words. */
public final class SentencesTest {
    public static void main(String[] args) throws Exception {
        Path document = Path.of(System.getProperty("document", "../shared/DOC.md"));
        if (!Files.exists(document)) {
            System.out.println(document + " is not there: the words of the sentences are not looked at, their answers are");
        }
        Book book = new Book(Files.exists(document) ? Files.readString(document) : "");
        new FieldSentences(book).run();
        new TextSentences(book).run();
        new BargainSentences(book).run();
        new FairSentences(book).run();
        new StepSentences(book).run();
        new PostSentences(book).run();
        new SheetSentences(book).run();
        new RefusalSentences(book).run();
        book.end();
    }
}
