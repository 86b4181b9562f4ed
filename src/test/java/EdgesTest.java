import java.io.IOException;

/** Each sentence of the document that names a boundary case, at the boundary and on both sides of it. */
public final class EdgesTest {
    public static void main(String[] args) throws IOException {
        Book book = new Book();
        Edges[] parts = {new LineEdges(book), new LengthEdges(book), new TextEdges(book), new StateEdges(book),
            new ChangeEdges(book), new QuestionEdges(book)};
        for (Edges part : parts) {
            part.all();
        }
        if (book.close() != 0) {
            System.exit(1);
        }
    }
}
