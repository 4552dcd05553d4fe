/** Promise 2: send. */
public final class SendTest {
    public static void main(String[] args) {
        numbersOfEachSpace();
        whatIsInFlight();
        wrongInputs();
        discardedOrFull();
        Check.end();
    }

    private static void numbersOfEachSpace() {
        AckBook book = new AckBook();
        for (int space = 0; space < 3; space++) {
            for (int k = 0; k < 5; k++) {
                Check.same("send in space " + space, book.send(space, 100, true, true), k);
            }
            Check.spaces("sent", book, space, 5, -1, -1);
        }
    }

    private static void whatIsInFlight() {
        AckBook book = new AckBook();
        book.send(0, 1, true, true);
        book.send(1, 1200, false, true);
        book.send(2, 700, false, false);
        Check.same("in flight are the counted ones of all spaces", book.look(1), 1201);
        Check.same("room", book.look(11), 12000 - 1201);
        Check.same("out of space 1", book.space(1, 4), 1);
        Check.same("eliciting ones out of space 1", book.space(1, 5), 0);
        Check.same("out of space 2", book.space(2, 4), 1);
        Check.sends(book, 2, 1200, 12);
        Check.same("more than the window may be in flight", book.look(1), 1201 + 14400);
        Check.same("no room is 0", book.look(11), 0);
    }

    private static void wrongInputs() {
        AckBook book = new AckBook();
        Check.illegal("space -1", () -> book.send(-1, 100, true, true));
        Check.illegal("space 3", () -> book.send(3, 100, true, true));
        Check.illegal("size 0", () -> book.send(0, 0, true, true));
        Check.illegal("size -1", () -> book.send(0, -1, true, true));
        Check.illegal("size 1201", () -> book.send(0, 1201, true, true));
        Check.illegal("least size", () -> book.send(0, Integer.MIN_VALUE, true, true));
        Check.illegal("greatest size", () -> book.send(0, Integer.MAX_VALUE, true, true));
        Check.illegal("eliciting, not counted", () -> book.send(0, 100, true, false));
        Check.looks("nothing was sent", book, 0, 0, 12000);
        Check.same("a refused one has no number", book.send(0, 100, true, true), 0);
    }

    private static void discardedOrFull() {
        AckBook book = new AckBook();
        book.discard(1);
        Check.stateless("discarded", () -> book.send(1, 100, true, true));
        Check.illegal("wrong size comes ahead of discarded", () -> book.send(1, 0, true, true));
        Check.illegal("not counted comes ahead of discarded", () -> book.send(1, 5, true, false));
        for (int k = 0; k < 4096; k++) {
            Check.same("send", book.send(2, 1, false, false), k);
        }
        Check.stateless("full", () -> book.send(2, 1, false, false));
        Check.illegal("wrong size comes ahead of full", () -> book.send(2, 1201, false, false));
        Check.same("another space is not full", book.send(0, 1, false, false), 0);
    }
}
