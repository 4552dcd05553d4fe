/** Promises 12 and 13: due and written. */
public final class DueWrittenTest {
    public static void main(String[] args) {
        hastySpaces();
        twoArePending();
        outOfOrder();
        twentyFiveTicks();
        delay();
        refused();
        Check.end();
    }

    private static void hastySpaces() {
        for (int space = 0; space < 2; space++) {
            AckBook book = new AckBook();
            book.came(space, 0, false);
            Check.same("not eliciting", book.due(space), false);
            book.came(space, 1, true);
            Check.same("one", book.due(space), true);
            Check.same("the other space", book.due(1 - space), false);
            book.written(space);
            Check.same("written", book.due(space), false);
            book.came(space, 1, true);
            Check.same("an old one", book.due(space), false);
            book.came(space, 2, false);
            Check.same("one not eliciting", book.due(space), false);
        }
    }

    private static void twoArePending() {
        AckBook book = new AckBook();
        book.came(2, 0, true);
        Check.same("one", book.due(2), false);
        book.came(2, 0, true);
        Check.same("the same again", book.due(2), false);
        book.came(2, 1, false);
        Check.same("one not eliciting", book.due(2), false);
        Check.same("pending", book.space(2, 7), 1);
        book.came(2, 2, true);
        Check.same("two", book.due(2), true);
        Check.same("pending", book.space(2, 7), 2);
        book.came(2, 3, true);
        Check.same("three", book.due(2), true);
        book.written(2);
        Check.same("pending", book.space(2, 7), 0);
        Check.same("written", book.due(2), false);
    }

    private static void outOfOrder() {
        AckBook book = new AckBook();
        book.came(2, 1, true);
        Check.same("the first is not 0", book.due(2), true);
        book.written(2);
        book.came(2, 2, true);
        Check.same("1 more", book.due(2), false);
        book.written(2);
        book.came(2, 0, true);
        Check.same("less than the greatest", book.due(2), true);
        book.written(2);
        book.came(2, 4, false);
        Check.same("a gap, but nothing pending", book.due(2), false);
        book.came(2, 5, true);
        Check.same("1 more than one not eliciting", book.due(2), false);
        book.came(2, 9, false);
        Check.same("a gap of one that is not pending", book.due(2), false);
        book.written(2);
        book.came(2, 11, true);
        Check.same("2 more", book.due(2), true);
        book.written(2);
        book.came(2, 10, true);
        Check.same("it fills a gap", book.due(2), true);
    }

    private static void twentyFiveTicks() {
        AckBook book = new AckBook();
        book.came(2, 0, false);
        Check.quiet(book, 10);
        book.came(2, 1, true);
        Check.quiet(book, 10);
        book.came(2, 2, false);
        Check.quiet(book, 14);
        Check.same("24 ticks", book.due(2), false);
        Check.quiet(book, 1);
        Check.same("25 ticks", book.due(2), true);
        Check.quiet(book, 1);
        Check.same("26 ticks", book.due(2), true);
        book.written(2);
        book.came(2, 3, true);
        Check.same("a new one waits anew", book.due(2), false);
        Check.quiet(book, 24);
        Check.same("24 ticks", book.due(2), false);
        Check.quiet(book, 1);
        Check.same("25 ticks", book.due(2), true);
    }

    private static void delay() {
        AckBook book = new AckBook();
        Check.quiet(book, 3);
        book.came(1, 5, true);
        Check.same("at once", book.written(1), 0);
        Check.quiet(book, 4);
        Check.same("nothing is pending", book.written(1), 4);
        book.came(1, 3, true);
        Check.quiet(book, 2);
        book.came(1, 5, true);
        Check.same("since the greatest came first", book.written(1), 6);
        book.came(1, 6, false);
        Check.quiet(book, 40);
        Check.same("since a greater one, eliciting or not", book.written(1), 40);
    }

    private static void refused() {
        AckBook book = new AckBook();
        Check.illegal("due(-1)", () -> book.due(-1) ? 1 : 0);
        Check.illegal("due(3)", () -> book.due(3) ? 1 : 0);
        Check.illegal("written(-1)", () -> book.written(-1));
        Check.illegal("written(3)", () -> book.written(3));
        Check.stateless("nothing came", () -> book.written(0));
        book.came(0, 7, false);
        Check.same("something came", book.written(0), 0);
        Check.stateless("nothing came in space 1", () -> book.written(1));
        book.discard(0);
        Check.stateless("discarded", () -> book.written(0));
        Check.same("due in a discarded space", book.due(0), false);
    }
}
