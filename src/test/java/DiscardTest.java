/** Promise 6: discard. */
public final class DiscardTest {
    public static void main(String[] args) {
        whatIsForgotten();
        whatStays();
        refused();
        backoff();
        Check.end();
    }

    /** A space with packets acknowledged, lost and out, with all its times, and with what came. */
    private static AckBook full(int space) {
        AckBook book = new AckBook();
        book.confirm();
        Check.sends(book, space, 100, 7);
        Check.acknowledged(book, space, 0, 4, 4, 1, 1);
        for (int k = 0; k < 66; k++) {
            book.came(space, 2 * k, true);
        }
        return book;
    }

    private static void whatIsForgotten() {
        for (int space = 0; space < 3; space++) {
            AckBook book = full(space);
            Check.same("in flight before", book.look(1), 400);
            Check.same("LOSS TIME before", book.space(space, 2), 1);
            Check.same("FLOOR before", book.space(space, 10), 3);
            Check.same("due before", book.due(space), true);
            book.discard(space);
            int patience = space == 2 ? 26 : 1;
            Check.spaces("discarded", book, space, 7, -1, -1, -1, 0, 0, 0, 0, patience, 1, 0);
            Check.same("in flight", book.look(1), 0);
            Check.same("next lost", book.next(space, true), -1);
            Check.same("next acknowledged", book.next(space, false), -1);
            Check.same("due", book.due(space), false);
            for (int number = 0; number < 7; number++) {
                Check.same("state", book.state(space, number), 3);
            }
            Check.same("state of one not sent", book.state(space, 7), -1);
            int s = space;
            Check.missing("range", () -> book.range(s, 0, true));
            Check.quiet(book, 5);
        }
    }

    private static void whatStays() {
        AckBook book = full(0);
        book.send(1, 70, true, true);
        book.send(0, 30, false, false);
        int window = book.look(2);
        book.discard(0);
        Check.same("in flight of the other space", book.look(1), 70);
        Check.same("out in the other space", book.space(1, 4), 1);
        Check.looks("the way and the window stay", book, 0, 70, window, 6000, 0, 0, 0, 0, 0, 0, 1, window - 70);
        book.span(0, 0);
        book.discard(2);
        Check.same("what is put together stays", book.acknowledge(1, 0), 1);
    }

    private static void refused() {
        AckBook book = new AckBook();
        Check.illegal("space -1", () -> discarded(book, -1));
        Check.illegal("space 3", () -> discarded(book, 3));
        Check.same("discard", discarded(book, 1), 1);
        Check.stateless("again", () -> discarded(book, 1));
        Check.stateless("send", () -> book.send(1, 1, false, false));
        Check.stateless("came", () -> book.came(1, 0, false) ? 1 : 0);
        Check.stateless("written", () -> book.written(1));
        Check.same("other spaces stay", book.space(0, 9) + book.space(2, 9), 0);
    }

    private static long discarded(AckBook book, int space) {
        book.discard(space);
        return book.space(space, 9);
    }

    private static void backoff() {
        AckBook book = new AckBook();
        book.send(1, 100, true, true);
        Check.ticks(book, 300);
        Check.same("BACKOFF before", book.look(9), 1);
        book.discard(0);
        Check.same("BACKOFF", book.look(9), 0);
        Check.same("past PROBE TIME", book.tick(), 3);
        Check.stateless("again", () -> discarded(book, 0));
        Check.same("BACKOFF after a refused one", book.look(9), 1);
    }
}
