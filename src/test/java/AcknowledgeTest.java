/** Promise 4: acknowledge: what is new, who is refused, and the samples of the way. */
public final class AcknowledgeTest {
    public static void main(String[] args) {
        whatIsNew();
        refused();
        noneIsPutTogetherAfterIt();
        firstSample();
        laterSamples();
        delays();
        noSample();
        backoffEnds();
        Check.end();
    }

    private static void whatIsNew() {
        AckBook book = new AckBook();
        Check.sends(book, 1, 100, 6);
        Check.same("5 and 3", Check.acknowledged(book, 1, 0, 5, 5, 3, 3), 2);
        Check.spaces("after", book, 1, 6, 5, 1, 1, 1, 1);
        Check.same("the same again", Check.acknowledged(book, 1, 0, 5, 5, 3, 3), 0);
        Check.same("a lower greatest", Check.acknowledged(book, 1, 0, 4, 4), 1);
        Check.same("greatest acknowledged stays", book.space(1, 1), 5);
        Check.same("those lost are not new", Check.acknowledged(book, 1, 0, 0, 5), 0);
        Check.same("lost stays lost", book.state(1, 0), 2);
        Check.same("nothing is in flight", book.look(1), 0);
    }

    private static void refused() {
        AckBook book = new AckBook();
        book.send(0, 100, true, true);
        Check.illegal("no range", () -> book.acknowledge(0, 0));
        Check.illegal("space -1", () -> Check.acknowledged(book, -1, 0, 0, 0));
        Check.illegal("space 3", () -> Check.acknowledged(book, 3, 0, 0, 0));
        Check.illegal("delay -1", () -> Check.acknowledged(book, 0, -1, 0, 0));
        Check.illegal("delay 100001", () -> Check.acknowledged(book, 0, 100001, 0, 0));
        Check.illegal("not yet sent", () -> Check.acknowledged(book, 0, 0, 0, 1));
        Check.illegal("far from sent", () -> Check.acknowledged(book, 0, 0, 0, Long.MAX_VALUE));
        Check.illegal("2 to the 32", () -> Check.acknowledged(book, 0, 0, 4294967296L, 4294967296L));
        Check.illegal("not sent in this space", () -> Check.acknowledged(book, 1, 0, 0, 0));
        Check.same("a wrong one changes nothing", book.space(0, 1), -1);
        Check.same("delay 100000", Check.acknowledged(book, 0, 100000, 0, 0), 1);
        book.discard(0);
        Check.stateless("discarded", () -> Check.acknowledged(book, 0, 0, 0, 0));
        Check.stateless("discarded comes ahead of delay", () -> Check.acknowledged(book, 0, -1, 0, 0));
        Check.stateless("discarded comes ahead of no range", () -> book.acknowledge(0, 0));
        Check.stateless("discarded comes ahead of wrong", () -> Check.acknowledged(book, 0, 0, 9, 9));
    }

    private static void noneIsPutTogetherAfterIt() {
        AckBook book = new AckBook();
        Check.sends(book, 0, 100, 3);
        book.discard(2);
        int[][] refusals = {{-1, 0}, {3, 0}, {0, -1}, {1, 0}, {2, 0}};
        for (int[] refusal : refusals) {
            book.span(2, 2);
            try {
                book.acknowledge(refusal[0], refusal[1]);
                Check.tell("acknowledge(" + refusal[0] + ", " + refusal[1] + ") was not refused");
            } catch (IllegalArgumentException | IllegalStateException e) {
                Check.same("begun anew", book.span(2, 2), 1);
                Check.illegal("emptied", () -> book.acknowledge(1, 0));
                Check.illegal("no range is left", () -> book.acknowledge(0, 0));
            }
        }
        Check.same("it comes", Check.acknowledged(book, 0, 0, 2, 2), 1);
        Check.same("begun anew after it came", book.span(2, 2), 1);
    }

    private static void firstSample() {
        AckBook book = new AckBook();
        book.send(2, 100, true, true);
        Check.quiet(book, 7);
        Check.acknowledged(book, 2, 5, 0, 0);
        Check.same("SMOOTH", book.look(5), 56);
        Check.same("VARY", book.look(6), 14);
        Check.same("LATEST", book.look(7), 7);
        Check.same("LEAST", book.look(8), 7);
        Check.same("LIMIT", book.look(10), 7);
        AckBook swift = new AckBook();
        swift.send(0, 100, true, true);
        Check.acknowledged(swift, 0, 0, 0, 0);
        Check.looks("a way of no ticks", swift, 0, 0, 12000, -1, -1, 0, 0, 0, 0, 0, 1);
        Check.same("PATIENCE is 1 at least", swift.space(0, 8), 1);
    }

    private static void laterSamples() {
        AckBook book = new AckBook();
        book.send(2, 100, true, true);
        Check.quiet(book, 8);
        Check.acknowledged(book, 2, 0, 0, 0);
        book.send(2, 100, true, true);
        Check.quiet(book, 18);
        Check.acknowledged(book, 2, 0, 1, 1);
        // e = 18 - 8; VARY = 16 + 10 - 4; SMOOTH = 64 + 18 - 8.
        Check.same("SMOOTH", book.look(5), 74);
        Check.same("VARY", book.look(6), 22);
        Check.same("LEAST", book.look(8), 8);
        book.send(2, 100, true, true);
        Check.quiet(book, 3);
        Check.acknowledged(book, 2, 0, 2, 2);
        // e = 9 - 3; VARY = 22 + 6 - 5; SMOOTH = 74 + 3 - 9.
        Check.same("SMOOTH", book.look(5), 68);
        Check.same("VARY", book.look(6), 23);
        Check.same("LATEST", book.look(7), 3);
        Check.same("LEAST", book.look(8), 3);
    }

    private static void delays() {
        // After a sample of 8: SMOOTH 64, VARY 16; then one of r ticks with a delay.
        delayed(2, 18, 10, 8);
        delayed(2, 18, 11, 18);
        delayed(2, 40, 25, 15);
        delayed(2, 40, 100000, 15);
        delayed(2, 32, 26, 32);
        delayed(2, 33, 26, 8);
        delayed(1, 18, 10, 18);
        delayed(0, 40, 25, 40);
    }

    private static void delayed(int space, int ticks, int delay, int counts) {
        AckBook book = new AckBook();
        book.send(space, 100, true, true);
        Check.ticks(book, 8);
        Check.acknowledged(book, space, 0, 0, 0);
        book.send(space, 100, true, true);
        Check.ticks(book, ticks);
        Check.acknowledged(book, space, delay, 1, 1);
        String where = "space " + space + ", " + ticks + " ticks, delay " + delay + ": ";
        Check.same(where + "SMOOTH", book.look(5), 64 + counts - 8);
        Check.same(where + "VARY", book.look(6), 16 + Math.abs(8 - counts) - 4);
        Check.same(where + "LATEST", book.look(7), ticks);
        Check.same(where + "LEAST", book.look(8), 8);
    }

    private static void noSample() {
        AckBook book = new AckBook();
        book.send(0, 100, false, true);
        Check.same("nothing eliciting", Check.acknowledged(book, 0, 0, 0, 0), 1);
        Check.same("LEAST", book.look(8), -1);
        book.send(0, 100, true, true);
        book.send(0, 100, true, true);
        Check.quiet(book, 2);
        Check.acknowledged(book, 0, 0, 2, 2);
        Check.same("LATEST", book.look(7), 2);
        AckBook other = new AckBook();
        other.send(0, 100, true, true);
        other.send(0, 100, false, true);
        other.tick();
        Check.acknowledged(other, 0, 0, 1, 1);
        Check.same("the greatest alone is not eliciting", other.look(8), -1);
        other.tick();
        Check.acknowledged(other, 0, 0, 0, 1);
        Check.same("the greatest is not new", other.look(8), -1);
        other.send(0, 100, true, true);
        other.tick();
        other.send(0, 100, false, false);
        Check.ticks(other, 4);
        Check.acknowledged(other, 0, 0, 2, 3);
        Check.same("the greatest's time, another one's eliciting", other.look(7), 4);
    }

    private static void backoffEnds() {
        AckBook book = new AckBook();
        book.send(0, 100, true, true);
        book.send(1, 100, false, false);
        Check.quiet(book, 299);
        Check.same("probe", book.tick(), 2);
        Check.same("BACKOFF", book.look(9), 1);
        Check.illegal("wrong", () -> Check.acknowledged(book, 0, 0, 1, 1));
        Check.same("BACKOFF after a wrong one", book.look(9), 1);
        Check.acknowledged(book, 1, 0, 0, 0);
        Check.same("BACKOFF after something new", book.look(9), 0);
        book.tick();
        Check.same("BACKOFF", book.look(9), 1);
        Check.same("nothing new", Check.acknowledged(book, 1, 0, 0, 0), 0);
        Check.same("BACKOFF after nothing new", book.look(9), 1);
    }
}
