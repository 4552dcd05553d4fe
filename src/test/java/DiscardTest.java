/** Promise 6: discard. */
public final class DiscardTest {
    public static void main(String[] args) {
        whatIsForgotten();
        whatStays();
        refused();
        backoff();
        countedOnesThatAreOut();
        nothingIsOut();
        noTimes();
        whatWasFound();
        whatCame();
        emptySpace();
        Check.end();
    }

    /** A space with packets acknowledged, lost and out, with all its times, and with what came. */
    private static AckBook full(int space) {
        AckBook book = new AckBook();
        book.confirm();
        Check.sends(book, space, 100, 7);
        Check.acknowledged(book, space, 0, 4, 4, 1, 1);
        for (int k = 0; k < 66; k++) {
            book.came(space, 2 * k, true);
        }
        return book;
    }

    private static void whatIsForgotten() {
        for (int space = 0; space < 3; space++) {
            AckBook book = full(space);
            Check.same("in flight before", book.look(1), 400);
            Check.same("LOSS TIME before", book.space(space, 2), 1);
            Check.same("FLOOR before", book.space(space, 10), 3);
            Check.same("due before", book.due(space), true);
            book.discard(space);
            int patience = space == 2 ? 26 : 1;
            Check.spaces("discarded", book, space, 7, -1, -1, -1, 0, 0, 0, 0, patience, 1, 0);
            Check.same("in flight", book.look(1), 0);
            Check.same("next lost", book.next(space, true), -1);
            Check.same("next acknowledged", book.next(space, false), -1);
            Check.same("due", book.due(space), false);
            for (int number = 0; number < 7; number++) {
                Check.same("state", book.state(space, number), 3);
            }
            Check.same("state of one not sent", book.state(space, 7), -1);
            int s = space;
            Check.missing("range", () -> book.range(s, 0, true));
            Check.quiet(book, 5);
        }
    }

    private static void whatStays() {
        AckBook book = full(0);
        book.send(1, 70, true, true);
        book.send(0, 30, false, false);
        int window = book.look(2);
        book.discard(0);
        Check.same("in flight of the other space", book.look(1), 70);
        Check.same("out in the other space", book.space(1, 4), 1);
        Check.looks("the way and the window stay", book, 0, 70, window, 6000, 0, 0, 0, 0, 0, 0, 1, window - 70);
        book.span(0, 0);
        book.discard(2);
        Check.same("what is put together stays", book.acknowledge(1, 0), 1);
    }

    private static void refused() {
        AckBook book = new AckBook();
        Check.illegal("space -1", () -> discarded(book, -1));
        Check.illegal("space 3", () -> discarded(book, 3));
        Check.same("discard", discarded(book, 1), 1);
        Check.stateless("again", () -> discarded(book, 1));
        Check.stateless("send", () -> book.send(1, 1, false, false));
        Check.stateless("came", () -> book.came(1, 0, false) ? 1 : 0);
        Check.stateless("written", () -> book.written(1));
        Check.same("other spaces stay", book.space(0, 9) + book.space(2, 9), 0);
    }

    private static long discarded(AckBook book, int space) {
        book.discard(space);
        return book.space(space, 9);
    }

    private static void backoff() {
        AckBook book = new AckBook();
        book.send(1, 100, true, true);
        Check.ticks(book, 300);
        Check.same("BACKOFF before", book.look(9), 1);
        book.discard(0);
        Check.same("BACKOFF", book.look(9), 0);
        Check.same("past PROBE TIME", book.tick(), 3);
        Check.stateless("again", () -> discarded(book, 0));
        Check.same("BACKOFF after a refused one", book.look(9), 1);
    }

    /** 'its counted ones that are out are not in flight any more'. */
    private static void countedOnesThatAreOut() {
        for (int space = 0; space < 3; space++) {
            AckBook book = new AckBook();
            book.send((space + 1) % 3, 7, true, true);
            book.send(space, 100, true, true);
            book.send(space, 200, false, true);
            book.send(space, 400, false, false);
            book.send(space, 800, true, true);
            Check.same("in flight", book.look(1), 1107);
            book.discard(space);
            Check.same("the first, the last, and not those not counted", book.look(1), 7);
            Check.same("room", book.look(11), 12000 - 7);
        }
        AckBook book = new AckBook();
        Check.sends(book, 0, 1200, 6);
        Check.acknowledged(book, 0, 0, 4, 4);
        Check.same("two lost, one acknowledged", book.look(1), 3600);
        book.discard(0);
        Check.same("none leaves twice", book.look(1), 0);
        Check.same("WINDOW neither grows nor shrinks", book.look(2), 6000);
    }

    /** 'nothing is out'. */
    private static void nothingIsOut() {
        AckBook book = new AckBook();
        book.anxious(true);
        book.send(1, 1, true, true);
        book.send(1, 1, false, false);
        Check.same("not while one is out", book.space(0, 3), -1);
        book.discard(1);
        Check.same("out", book.space(1, 4), 0);
        Check.same("eliciting ones", book.space(1, 5), 0);
        Check.same("an anxious book sees none out", book.space(0, 3), 300);
        Check.same("how many were sent stays", book.space(1, 0), 2);
    }

    /** 'it has no times': neither does a tick find losses in it, nor does it probe there. */
    private static void noTimes() {
        AckBook book = new AckBook();
        book.send(0, 1, true, true);
        book.send(0, 1, false, false);
        Check.acknowledged(book, 0, 0, 1, 1);
        Check.same("LOSS TIME", book.space(0, 2), 112);
        Check.same("PROBE TIME", book.space(0, 3), 300);
        book.discard(0);
        Check.same("LOSS TIME", book.space(0, 2), -1);
        Check.same("PROBE TIME", book.space(0, 3), -1);
        Check.quiet(book, 400);
    }

    /** 'what was found lost or acknowledged .. is forgotten'. */
    private static void whatWasFound() {
        AckBook book = new AckBook();
        Check.sends(book, 0, 1, 8);
        Check.sends(book, 1, 1, 8);
        Check.acknowledged(book, 0, 0, 7, 7);
        Check.acknowledged(book, 1, 0, 7, 7);
        Check.same("the first one lost", book.next(0, true), 0);
        book.discard(0);
        Check.same("the others are forgotten", book.next(0, true), -1);
        Check.same("so is what was acknowledged", book.next(0, false), -1);
        Check.same("not in space 1", book.next(1, true), 0);
        Check.same("not in space 1", book.next(1, false), 7);
        Check.same("GREATEST ACKNOWLEDGED", book.space(0, 1), -1);
        Check.same("of space 1", book.space(1, 1), 7);
    }

    /** 'and what came, is forgotten'. */
    private static void whatCame() {
        AckBook book = new AckBook();
        for (int space = 0; space < 3; space++) {
            book.came(space, 4, true);
            Check.same("due", book.due(space), true);
            book.discard(space);
            int its = space;
            Check.same("ranges", book.space(space, 6), 0);
            Check.same("pending", book.space(space, 7), 0);
            Check.same("due", book.due(space), false);
            Check.missing("range", () -> book.range(its, 0, true));
            Check.stateless("written", () -> book.written(its));
        }
    }

    /** A space in which nothing was done can be discarded, once. */
    private static void emptySpace() {
        AckBook book = new AckBook();
        for (int space = 0; space < 3; space++) {
            Check.same("kept", book.space(space, 9), 0);
            Check.same("discarded", discarded(book, space), 1);
            int its = space;
            Check.stateless("again", () -> discarded(book, its));
            Check.same("state of one not sent", book.state(space, 0), -1);
        }
        book.confirm();
        book.anxious(true);
        Check.quiet(book, 400);
    }
}
