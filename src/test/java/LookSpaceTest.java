/** Promises 15 and 16: look and space. */
public final class LookSpaceTest {
    public static void main(String[] args) {
        aBookInUse();
        refused();
        Check.end();
    }

    private static void aBookInUse() {
        AckBook book = new AckBook();
        book.confirm();
        book.send(2, 1000, true, true);
        Check.quiet(book, 4);
        Check.acknowledged(book, 2, 1, 0, 0);
        Check.quiet(book, 1);
        Check.sends(book, 2, 1000, 5);
        book.send(2, 300, false, true);
        Check.quiet(book, 2);
        Check.acknowledged(book, 2, 0, 4, 4);
        // e = 4 - 2; VARY = 8 + 2 - 2; SMOOTH = 32 + 2 - 4.
        book.came(2, 0, true);
        book.came(2, 2, true);
        book.came(2, 4, false);
        Check.looks("in use", book, 7, 3300, 6000, 6000, 7, 30, 8, 2, 2, 0, 3, 2700);
        Check.spaces("in use", book, 2, 7, 4, 8, 5 + 36, 4, 3, 3, 2, 36, 0, 0);
        Check.spaces("not in use", book, 1, 0, -1, -1, -1, 0, 0, 0, 0, 11, 0, 0);
    }

    private static void refused() {
        AckBook book = new AckBook();
        for (int what : new int[] {-1, 12, Integer.MIN_VALUE, Integer.MAX_VALUE}) {
            Check.missing("look(" + what + ")", () -> book.look(what));
        }
        for (int what : new int[] {-1, 11, Integer.MIN_VALUE, Integer.MAX_VALUE}) {
            Check.missing("space(0, " + what + ")", () -> book.space(0, what));
            Check.illegal("space(3, " + what + ")", () -> book.space(3, what));
            Check.illegal("space(-1, " + what + ")", () -> book.space(-1, what));
        }
        Check.illegal("space(3, 0)", () -> book.space(3, 0));
        book.discard(0);
        Check.missing("space of a discarded one", () -> book.space(0, 11));
    }
}
