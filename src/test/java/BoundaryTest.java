import java.nio.file.Files;
import java.nio.file.Path;

/** A test of its own for each sentence of the document; its path is the second argument. */
public final class BoundaryTest {
    public static void main(String[] args) throws Exception {
        Book book = new Book(Files.readString(Path.of(args[1])));
        SharedBoundaries.tell(book);
        DescriptionBoundaries.tell(book);
        TextBoundaries.tell(book);
        AutomatonBoundaries.tell(book);
        WordBoundaries.tell(book);
        ReadingBoundaries.tell(book);
        CountBoundaries.tell(book);
        SetBoundaries.tell(book);
        ComparisonBoundaries.tell(book);
        LanguageBoundaries.tell(book);
        ChangeBoundaries.tell(book);
        book.end();
        Check.end();
    }
}
