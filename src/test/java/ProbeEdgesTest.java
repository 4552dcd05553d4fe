/** The edges of PROBE TIME, BACKOFF and A TICK, each with the words of the document that it is about. */
public final class ProbeEdgesTest {
    public static void main(String[] args) {
        noElicitingOneOut();
        latestElicitingOneThatWasSent();
        twoToTheBackoff();
        backoffTo10AtMost();
        anxiousOnly();
        noElicitingOneOutInAnySpace();
        firstSpaceNotDiscarded();
        latestPacketSentInAny();
        zeroWithoutOne();
        space2BeforeItIsConfirmed();
        lossTimeNotAboveTime();
        probeTimeNotAboveTime();
        leastSpaceOfTheEarliestLosses();
        leastSpaceOfTheEarliestProbes();
        backoffEnds();
        Check.end();
    }

    /** '(none, if no eliciting one of it is out)'. */
    private static void noElicitingOneOut() {
        AckBook book = new AckBook();
        Check.same("nothing is sent", book.space(0, 3), -1);
        book.send(0, 1, false, true);
        Check.same("not eliciting", book.space(0, 3), -1);
        book.send(0, 1, true, true);
        Check.same("eliciting", book.space(0, 3), 300);
        Check.acknowledged(book, 0, 0, 1, 1);
        Check.same("acknowledged", book.space(0, 3), -1);
        Check.sends(book, 0, 1, 1);
        Check.same("one more", book.space(0, 3), 1);
        for (int k = 0; k < 3; k++) {
            book.send(0, 1, false, false);
        }
        Check.acknowledged(book, 0, 0, 5, 5);
        Check.same("lost", book.state(0, 2), 2);
        Check.same("lost", book.space(0, 3), -1);
        book.send(1, 1, true, true);
        book.discard(1);
        Check.same("discarded", book.space(1, 3), -1);
    }

    /** 'the time of the latest eliciting one that was sent in it': also when that is out no more. */
    private static void latestElicitingOneThatWasSent() {
        AckBook book = new AckBook();
        book.send(0, 1, true, true);
        Check.ticks(book, 6);
        book.send(0, 1, true, true);
        Check.same("the second", book.space(0, 3), 306);
        book.tick();
        book.send(0, 1, false, true);
        Check.same("not one that is not eliciting", book.space(0, 3), 306);
        book.send(1, 1, true, true);
        Check.same("not one of another space", book.space(0, 3), 306);
        Check.acknowledged(book, 0, 0, 1, 1);
        Check.same("a sample of 1 that loses the first", book.state(0, 0), 2);
        book.send(0, 1, true, true);
        book.tick();
        book.send(0, 1, true, true);
        Check.acknowledged(book, 0, 0, 4, 4);
        // Samples 1 and 0: SMOOTH 7, VARY 3; 3 was sent at 7 and was lost, 4 at 8.
        Check.same("none is out", book.space(0, 3), -1);
        AckBook other = new AckBook();
        other.send(0, 1, true, true);
        Check.ticks(other, 8);
        Check.acknowledged(other, 0, 0, 0, 0);
        other.send(0, 1, true, true);
        Check.ticks(other, 2);
        other.send(0, 1, true, true);
        Check.acknowledged(other, 0, 0, 2, 2);
        // Samples 8 and 0: SMOOTH 56, VARY 16 + 8 - 4.
        Check.same("PATIENCE", other.space(0, 8), 7 + 20);
        Check.same("1 is out", other.state(0, 1), 0);
        Check.same("of 2, sent at 10, which is out no more", other.space(0, 3), 10 + 27);
    }

    /** '+ PATIENCE * 2 to the BACKOFF'. */
    private static void twoToTheBackoff() {
        AckBook book = new AckBook();
        book.confirm();
        Check.ticks(book, 3);
        book.send(2, 1, true, true);
        Check.same("BACKOFF 0", book.space(2, 3), 3 + 325);
        Check.quiet(book, 324);
        Check.same("probe", book.tick(), 4);
        Check.same("BACKOFF 1", book.space(2, 3), 3 + 650);
        book.send(1, 1, true, true);
        Check.same("of another space too", book.space(1, 3), 328 + 600);
    }

    /** 'BACKOFF grows by 1, to 10 at most'; it takes more than 512 calls. */
    private static void backoffTo10AtMost() {
        AckBook book = new AckBook();
        book.send(0, 1, true, true);
        Check.acknowledged(book, 0, 0, 0, 0);
        book.send(0, 1, true, true);
        Check.ticks(book, 511);
        Check.same("after 256 ticks", book.look(9), 9);
        Check.same("at 512", book.tick(), 2);
        Check.same("BACKOFF", book.look(9), 10);
        Check.same("PROBE TIME", book.space(0, 3), 1024);
        Check.quiet(book, 511);
        Check.same("at 1024", book.tick(), 2);
        Check.same("BACKOFF at most", book.look(9), 10);
        Check.same("PROBE TIME stays", book.space(0, 3), 1024);
        Check.same("so it is past", book.tick(), 2);
        Check.same("BACKOFF at most", book.look(9), 10);
    }

    /** 'While the book is ANXIOUS'. */
    private static void anxiousOnly() {
        AckBook book = new AckBook();
        Check.same("not at first", book.space(0, 3), -1);
        book.anxious(false);
        Check.same("not", book.space(0, 3), -1);
        book.anxious(true);
        book.anxious(true);
        Check.same("anxious", book.space(0, 3), 300);
        Check.quiet(book, 299);
        book.anxious(false);
        Check.quiet(book, 2);
        book.anxious(true);
        Check.same("past PROBE TIME", book.tick(), 2);
        book.anxious(false);
        Check.same("BACKOFF stays", book.look(9), 1);
    }

    /** 'and no eliciting one is out in any space'. */
    private static void noElicitingOneOutInAnySpace() {
        for (int space = 0; space < 3; space++) {
            AckBook book = new AckBook();
            book.anxious(true);
            book.send(space, 1, false, true);
            Check.same("one not eliciting is out", book.space(0, 3), 300);
            book.send(space, 1, true, true);
            Check.same("an eliciting one in space " + space, book.space(0, 3), space == 0 ? 300 : -1);
            Check.acknowledged(book, space, 0, 1, 1);
            Check.same("acknowledged", book.space(0, 3), 1);
        }
    }

    /** 'that of the first space not discarded is': no other one has it. */
    private static void firstSpaceNotDiscarded() {
        AckBook book = new AckBook();
        book.confirm();
        book.anxious(true);
        int[][] wants = {{300, -1, -1}, {-1, 300, -1}, {-1, -1, 325}, {-1, -1, -1}};
        for (int discarded = 0; discarded < 4; discarded++) {
            for (int space = 0; space < 3; space++) {
                Check.same(discarded + " discarded, space " + space, book.space(space, 3), wants[discarded][space]);
            }
            if (discarded < 3) {
                book.discard(discarded);
            }
        }
        Check.quiet(book, 400);
        AckBook middle = new AckBook();
        middle.anxious(true);
        middle.discard(1);
        Check.same("space 0 is the first", middle.space(0, 3), 300);
    }

    /** 'the time of the latest packet sent in any, discarded ones too'. */
    private static void latestPacketSentInAny() {
        for (int space = 0; space < 3; space++) {
            AckBook book = new AckBook();
            book.anxious(true);
            Check.ticks(book, 2);
            book.send(0, 1, false, false);
            Check.ticks(book, 5);
            book.send(space, 1, false, false);
            Check.same("the latest is of space " + space, book.space(0, 3), 307);
            if (space > 0) {
                book.discard(space);
                Check.same("space " + space + " is discarded", book.space(0, 3), 307);
            }
        }
        AckBook book = new AckBook();
        book.anxious(true);
        Check.ticks(book, 9);
        book.send(0, 1, true, true);
        book.discard(0);
        Check.same("of the first space, discarded", book.space(1, 3), 309);
    }

    /** '(0 without one)'. */
    private static void zeroWithoutOne() {
        AckBook book = new AckBook();
        Check.ticks(book, 40);
        book.anxious(true);
        Check.same("from 0 on", book.space(0, 3), 300);
        Check.illegal("refused", () -> book.send(0, 0, true, true));
        Check.same("a refused one is not sent", book.space(0, 3), 300);
    }

    /** 'Space 2 has none before it is confirmed', with an eliciting one out, and in an anxious book. */
    private static void space2BeforeItIsConfirmed() {
        AckBook book = new AckBook();
        book.send(2, 1, true, true);
        Check.same("an eliciting one is out", book.space(2, 3), -1);
        Check.quiet(book, 400);
        book.confirm();
        Check.same("confirmed", book.space(2, 3), 325);
        AckBook anxious = new AckBook();
        anxious.anxious(true);
        anxious.discard(1);
        anxious.discard(0);
        Check.same("the first space left", anxious.space(2, 3), -1);
        Check.quiet(anxious, 330);
        anxious.confirm();
        Check.same("confirmed", anxious.tick(), 4);
    }

    /** 'If some LOSS TIME is not above it'. */
    private static void lossTimeNotAboveTime() {
        AckBook book = new AckBook();
        book.send(1, 1, true, true);
        book.send(1, 1, false, false);
        Check.acknowledged(book, 1, 0, 1, 1);
        Check.same("LOSS TIME", book.space(1, 2), 112);
        Check.quiet(book, 111);
        Check.same("out", book.state(1, 0), 0);
        Check.same("at LOSS TIME", book.tick(), 1);
        Check.same("lost", book.state(1, 0), 2);
        Check.quiet(book, 200);
        AckBook late = new AckBook();
        for (int space = 0; space < 2; space++) {
            late.send(space, 1, true, true);
            late.send(space, 1, false, false);
            Check.acknowledged(late, space, 0, 1, 1);
        }
        Check.quiet(late, 111);
        Check.same("of both spaces one", late.tick(), 1);
        Check.same("the other one is past a tick later", late.tick(), 1);
        Check.same("lost", late.state(1, 0), 2);
        Check.quiet(late, 1);
    }

    /** 'Otherwise, if some PROBE TIME is not above it'. */
    private static void probeTimeNotAboveTime() {
        for (int space = 0; space < 2; space++) {
            AckBook book = new AckBook();
            book.send(space, 1, true, true);
            Check.quiet(book, 299);
            Check.same("at PROBE TIME", book.tick(), 2 + space);
            Check.quiet(book, 10);
        }
        AckBook past = new AckBook();
        past.send(2, 1, true, true);
        Check.quiet(past, 340);
        past.confirm();
        Check.same("past PROBE TIME", past.tick(), 4);
        AckBook both = new AckBook();
        both.send(0, 1, true, true);
        Check.quiet(both, 188);
        both.send(1, 1, true, true);
        both.send(1, 1, false, false);
        Check.acknowledged(both, 1, 0, 1, 1);
        Check.quiet(both, 111);
        Check.same("LOSS TIME", both.space(1, 2), 300);
        Check.same("PROBE TIME", both.space(0, 3), 300);
        Check.same("LOSS TIME goes first", both.tick(), 1);
        Check.same("BACKOFF", both.look(9), 0);
        Check.same("PROBE TIME a tick later", both.tick(), 2);
        Check.same("BACKOFF", both.look(9), 1);
    }

    /** 'losses of the space with the earliest (the least such space) are looked for'. */
    private static void leastSpaceOfTheEarliestLosses() {
        AckBook book = new AckBook();
        withLossTime(book, 2);
        withLossTime(book, 1);
        book.tick();
        withLossTime(book, 0);
        Check.same("LOSS TIME of 0", book.space(0, 2), 113);
        Check.same("LOSS TIME of 1", book.space(1, 2), 112);
        Check.same("LOSS TIME of 2", book.space(2, 2), 112);
        Check.quiet(book, 110);
        int[] order = {1, 2, 0};
        for (int space : order) {
            Check.same("losses at " + (book.look(0) + 1), book.tick(), 1);
            Check.same("of space " + space, book.next(space, true), 0);
            for (int other = 0; other < 3; other++) {
                Check.same("of no other space", book.next(other, true), -1);
            }
        }
        Check.quiet(book, 1);
    }

    /** Its first packet waits below the second, which came without a sample. */
    private static void withLossTime(AckBook book, int space) {
        book.send(space, 1, true, true);
        book.send(space, 1, false, false);
        Check.acknowledged(book, space, 0, 1, 1);
    }

    /** '2 + the space with the earliest (the least such)'. */
    private static void leastSpaceOfTheEarliestProbes() {
        // A packet of one space at 0 and of another one later; by then both PROBE TIMEs are past.
        probed(1, 0, 0, 2);
        probed(1, 0, 1, 3);
        probed(0, 1, 0, 2);
        probed(0, 1, 1, 2);
        // PATIENCE of space 2 is 25 more.
        probed(2, 0, 24, 2);
        probed(2, 0, 25, 2);
        probed(2, 0, 26, 4);
        probed(2, 1, 25, 3);
        probed(2, 1, 26, 4);
    }

    private static void probed(int first, int second, int ticks, int want) {
        AckBook book = new AckBook();
        book.send(first, 1, true, true);
        Check.quiet(book, ticks);
        book.send(second, 1, true, true);
        while (book.look(0) < 355) {
            book.tick();
        }
        book.confirm();
        // That makes BACKOFF 0, and what was probed for is past again.
        book.discard(3 - first - second);
        Check.same("space " + first + ", " + ticks + " ticks ahead of " + second, book.tick(), want);
    }

    /** 'BACKOFF is 0' after something new came, and after a space was discarded. */
    private static void backoffEnds() {
        AckBook book = new AckBook();
        book.send(0, 1, true, true);
        book.send(1, 1, false, false);
        Check.ticks(book, 300);
        Check.same("BACKOFF", book.look(9), 1);
        Check.acknowledged(book, 1, 0, 0, 0);
        Check.same("something new, though not eliciting", book.look(9), 0);
        book.tick();
        Check.same("BACKOFF", book.look(9), 1);
        Check.acknowledged(book, 1, 0, 0, 0);
        Check.same("nothing new", book.look(9), 1);
        book.discard(2);
        Check.same("discarded", book.look(9), 0);
        AckBook losses = new AckBook();
        losses.send(1, 1, true, true);
        Check.quiet(losses, 200);
        withLossTime(losses, 0);
        Check.ticks(losses, 100);
        Check.same("BACKOFF", losses.look(9), 1);
        Check.quiet(losses, 11);
        Check.same("losses at 312", losses.tick(), 1);
        Check.same("losses leave BACKOFF as it is", losses.look(9), 1);
    }
}
