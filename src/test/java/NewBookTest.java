/** Promise 1: a new object. */
public final class NewBookTest {
    public static void main(String[] args) {
        AckBook book = new AckBook();
        Check.looks("new", book, 0, 0, 12000, -1, -1, 800, 200, 0, -1, 0, 112, 12000);
        for (int space = 0; space < 3; space++) {
            Check.spaces("new", book, space, 0, -1, -1, -1, 0, 0, 0, 0, 300, 0, 0);
            Check.same("due", book.due(space), false);
            Check.same("next acknowledged", book.next(space, false), -1);
            Check.same("next lost", book.next(space, true), -1);
            Check.same("state", book.state(space, 0), -1);
        }
        Check.quiet(book, 400);
        new AckBook().tick();
        Check.same("another book has its own time", new AckBook().look(0), 0);
        Check.end();
    }
}
