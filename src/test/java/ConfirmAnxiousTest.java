/** Promises 7 and 8: confirm and anxious. */
public final class ConfirmAnxiousTest {
    public static void main(String[] args) {
        confirmed();
        anxiousBook();
        whatAnxietyLooksAt();
        anxiousAndNotConfirmed();
        Check.end();
    }

    private static void confirmed() {
        AckBook book = new AckBook();
        book.send(2, 100, true, true);
        Check.same("PROBE TIME before", book.space(2, 3), -1);
        Check.same("PATIENCE before", book.space(2, 8), 300);
        Check.quiet(book, 330);
        book.confirm();
        Check.same("PROBE TIME", book.space(2, 3), 325);
        Check.same("PATIENCE", book.space(2, 8), 325);
        Check.same("PATIENCE of space 0", book.space(0, 8), 300);
        Check.same("PATIENCE of space 1", book.space(1, 8), 300);
        book.confirm();
        Check.same("confirmed twice", book.tick(), 4);
    }

    private static void anxiousBook() {
        AckBook book = new AckBook();
        Check.same("PROBE TIME before", book.space(0, 3), -1);
        book.anxious(true);
        Check.same("PROBE TIME without a packet", book.space(0, 3), 300);
        Check.same("PROBE TIME of space 1", book.space(1, 3), -1);
        book.anxious(false);
        Check.same("not any more", book.space(0, 3), -1);
        Check.quiet(book, 299);
        book.anxious(true);
        Check.same("probe", book.tick(), 2);
        Check.same("BACKOFF counts", book.space(0, 3), 600);
        book.send(2, 100, false, false);
        Check.same("any packet counts", book.space(0, 3), 900);
        book.discard(2);
        Check.same("one of a discarded space too", book.space(0, 3), 600);
        Check.quiet(book, 10);
        book.discard(0);
        Check.same("the next space", book.space(1, 3), 600);
        Check.same("not the discarded one", book.space(0, 3), -1);
        book.discard(1);
        Check.quiet(book, 330);
    }

    private static void whatAnxietyLooksAt() {
        AckBook book = new AckBook();
        book.anxious(true);
        Check.quiet(book, 3);
        book.send(1, 100, true, true);
        Check.same("an eliciting one is out elsewhere", book.space(0, 3), -1);
        Check.same("its own space", book.space(1, 3), 303);
        Check.acknowledged(book, 1, 0, 0, 0);
        Check.same("none is out any more", book.space(0, 3), 4);
        Check.same("space 1", book.space(1, 3), -1);
        book.send(2, 100, true, true);
        Check.same("one is out in space 2, not confirmed", book.space(0, 3), -1);
        Check.same("space 2 has none", book.space(2, 3), -1);
        Check.quiet(book, 20);
        book.discard(2);
        Check.same("a discarded space has none out", book.space(0, 3), 4);
    }

    private static void anxiousAndNotConfirmed() {
        AckBook book = new AckBook();
        book.anxious(true);
        book.discard(0);
        book.discard(1);
        Check.same("space 2 has none before it is confirmed", book.space(2, 3), -1);
        Check.quiet(book, 324);
        book.confirm();
        Check.same("confirmed", book.space(2, 3), 325);
        Check.same("probe", book.tick(), 4);
    }
}
