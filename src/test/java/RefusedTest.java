import java.util.ArrayList;
import java.util.List;
import java.util.function.Consumer;

/**
 * Every sentence that begins with 'Throws', and 'Of several exceptions the first one told is thrown':
 * who is refused, by which exception, and that a refused call changes nothing.
 */
public final class RefusedTest {
    private static final long MOST = 4611686018427387903L;
    private static final int[] NO_SPACES = {-1, 3, 4, 256, 65536, Integer.MIN_VALUE, Integer.MAX_VALUE};

    public static void main(String[] args) {
        noSuchSpace();
        noSuchSpaceComesFirst();
        firstToldOfSend();
        firstToldOfSpan();
        firstToldOfAcknowledge();
        firstToldOfCameAndWritten();
        whatIsNotRefusedInADiscardedSpace();
        refusedCallsChangeNothing();
        oldOnesChangeNothing();
        Check.end();
    }

    private static long came(AckBook book, int space, long number) {
        return book.came(space, number, true) ? 1 : 0;
    }

    private static long discarded(AckBook book, int space) {
        book.discard(space);
        return space;
    }

    /** 'when there is no such space', 'when there is none': each call that has a space. */
    private static void noSuchSpace() {
        AckBook book = new AckBook();
        for (int space : NO_SPACES) {
            String told = "(" + space + ")";
            Check.illegal("send" + told, () -> book.send(space, 1, false, false));
            Check.illegal("acknowledge" + told, () -> Check.acknowledged(book, space, 0, 0, 0));
            Check.illegal("discard" + told, () -> discarded(book, space));
            Check.illegal("next" + told, () -> book.next(space, true));
            Check.illegal("next" + told, () -> book.next(space, false));
            Check.illegal("state" + told, () -> book.state(space, 0));
            Check.illegal("came" + told, () -> came(book, space, 0));
            Check.illegal("due" + told, () -> book.due(space) ? 1 : 0);
            Check.illegal("written" + told, () -> book.written(space));
            Check.illegal("range" + told, () -> book.range(space, 0, true));
            Check.illegal("space" + told, () -> book.space(space, 0));
        }
    }

    /** The other exceptions of those calls are told behind it. */
    private static void noSuchSpaceComesFirst() {
        AckBook book = new AckBook();
        for (int space : NO_SPACES) {
            Check.illegal("ahead of no such range", () -> book.range(space, 99, true));
            Check.illegal("ahead of another what", () -> book.space(space, 11));
            Check.illegal("ahead of nothing came", () -> book.written(space));
        }
        Check.missing("another what of a space", () -> book.space(0, 11));
        Check.missing("no such range of a space", () -> book.range(0, 0, true));
    }

    /** 'IllegalArgumentException when ..; IllegalStateException when the space is discarded or has 4096'. */
    private static void firstToldOfSend() {
        AckBook book = new AckBook();
        book.discard(0);
        Check.illegal("size 0 in a discarded space", () -> book.send(0, 0, false, true));
        Check.illegal("size 1201 in a discarded space", () -> book.send(0, 1201, false, true));
        Check.illegal("eliciting, not counted, in a discarded space", () -> book.send(0, 1, true, false));
        Check.stateless("a right one in a discarded space", () -> book.send(0, 1, false, false));
        Check.stateless("a right one in a discarded space", () -> book.send(0, 1200, true, true));
        Check.same("in the next space", book.send(1, 1, false, false), 0);
    }

    /** 'IllegalArgumentException when it is not 0 <= low <= high, or not so far below; .. when it has 64'. */
    private static void firstToldOfSpan() {
        AckBook book = new AckBook();
        for (int k = 64; k >= 1; k--) {
            book.span(2 * k, 2 * k);
        }
        Check.illegal("low below 0", () -> book.span(-1, 0));
        Check.illegal("high below low", () -> book.span(0, -1));
        Check.illegal("no number between", () -> book.span(0, 1));
        Check.stateless("right, but the 65th", () -> book.span(0, 0));
        Check.stateless("again", () -> book.span(0, 0));
        Check.sends(book, 0, 1, 129);
        Check.same("the 64 are whole", book.acknowledge(0, 0), 64);
    }

    /** 'IllegalStateException when the space is discarded (looked at right behind .., ahead of the others)'. */
    private static void firstToldOfAcknowledge() {
        AckBook book = new AckBook();
        book.send(0, 1, true, true);
        book.discard(0);
        Check.stateless("right before it was discarded", () -> Check.acknowledged(book, 0, 0, 0, 0));
        Check.stateless("delay -1", () -> Check.acknowledged(book, 0, -1, 0, 0));
        Check.stateless("delay 100001", () -> Check.acknowledged(book, 0, 100001, 0, 0));
        Check.stateless("no range", () -> book.acknowledge(0, 0));
        Check.stateless("no range, delay -1", () -> book.acknowledge(0, -1));
        Check.stateless("wrong", () -> Check.acknowledged(book, 0, 0, 1, 1));
        Check.illegal("no such space", () -> Check.acknowledged(book, 3, 0, 0, 0));
    }

    /** 'IllegalArgumentException when there is no such space or number; IllegalStateException ..'. */
    private static void firstToldOfCameAndWritten() {
        AckBook book = new AckBook();
        book.came(0, 0, true);
        book.discard(0);
        Check.illegal("number -1 in a discarded space", () -> came(book, 0, -1));
        Check.illegal("a number too great in a discarded space", () -> came(book, 0, MOST + 1));
        Check.stateless("a new one in a discarded space", () -> came(book, 0, MOST));
        Check.stateless("an old one in a discarded space", () -> came(book, 0, 0));
        Check.stateless("written in a discarded space", () -> book.written(0));
        Check.stateless("nothing came", () -> book.written(1));
        book.discard(1);
        Check.stateless("nothing came, and discarded", () -> book.written(1));
        Check.stateless("discarded already", () -> discarded(book, 1));
    }

    private static void whatIsNotRefusedInADiscardedSpace() {
        AckBook book = new AckBook();
        book.send(2, 1, true, true);
        book.came(2, 0, true);
        book.discard(2);
        Check.same("next", book.next(2, true), -1);
        Check.same("next", book.next(2, false), -1);
        Check.same("state", book.state(2, 0), 3);
        Check.same("due", book.due(2), false);
        Check.same("space", book.space(2, 9), 1);
        Check.missing("range", () -> book.range(2, 0, false));
    }

    /** A book's life in steps: every kind of state that a refused call could spoil. */
    private static List<Consumer<AckBook>> life() {
        List<Consumer<AckBook>> steps = new ArrayList<>();
        steps.add(book -> Check.sends(book, 2, 1200, 10));
        steps.add(book -> book.send(1, 60, true, true));
        steps.add(book -> Check.ticks(book, 4));
        steps.add(book -> Check.acknowledged(book, 2, 1, 9, 9, 4, 4));
        steps.add(book -> book.next(2, true));
        steps.add(book -> Check.acknowledged(book, 1, 1, 0, 0));
        steps.add(book -> Check.sends(book, 1, 700, 3));
        steps.add(book -> book.anxious(true));
        steps.add(AckBook::tick);
        steps.add(book -> Check.acknowledged(book, 1, 1, 3, 3));
        steps.add(AckBook::confirm);
        steps.add(book -> Check.ticks(book, 12));
        steps.add(book -> book.came(2, 7, true));
        steps.add(book -> book.came(1, MOST, true));
        steps.add(AckBook::tick);
        steps.add(book -> book.written(2));
        steps.add(book -> book.came(2, 8, true));
        steps.add(book -> Check.sends(book, 2, 1200, 3));
        steps.add(book -> Check.ticks(book, 60));
        steps.add(book -> book.discard(1));
        steps.add(book -> Check.ticks(book, 30));
        return steps;
    }

    private static void refusedCallsChangeNothing() {
        int steps = life().size();
        for (int count = 0; count <= steps; count++) {
            AckBook left = new AckBook();
            AckBook pestered = new AckBook();
            List<Consumer<AckBook>> life = life();
            // The first space is discarded from the start, so that there is one to be refused for.
            left.discard(0);
            pestered.discard(0);
            for (Consumer<AckBook> step : life.subList(0, count)) {
                pester(pestered);
                Snapshot.of(pestered);
                step.accept(left);
                step.accept(pestered);
            }
            pester(pestered);
            String where = "after " + count + " steps";
            Snapshot.same(where, Snapshot.of(pestered), Snapshot.of(left));
            sameFromHereOn(where, pestered, left);
        }
    }

    /** Every refused call, at a place where no acknowledgement is put together. */
    private static void pester(AckBook book) {
        Check.illegal("send", () -> book.send(3, 100, true, true));
        Check.illegal("send", () -> book.send(2, 0, true, true));
        Check.illegal("send", () -> book.send(2, 1201, true, true));
        Check.illegal("send", () -> book.send(2, 100, true, false));
        Check.stateless("send", () -> book.send(0, 100, true, true));
        Check.illegal("span", () -> book.span(-1, 4));
        Check.illegal("span", () -> book.span(3, 2));
        Check.illegal("acknowledge", () -> book.acknowledge(2, 0));
        Check.illegal("acknowledge", () -> Check.acknowledged(book, 3, 0, 0, 0));
        Check.illegal("acknowledge", () -> Check.acknowledged(book, 2, -1, 0, 0));
        Check.illegal("acknowledge", () -> Check.acknowledged(book, 2, 100001, 0, 0));
        Check.illegal("acknowledge", () -> Check.acknowledged(book, 2, 0, book.space(2, 0), book.space(2, 0)));
        Check.stateless("acknowledge", () -> Check.acknowledged(book, 0, 0, 0, 0));
        Check.illegal("discard", () -> discarded(book, -1));
        Check.stateless("discard", () -> discarded(book, 0));
        Check.illegal("next", () -> book.next(-1, true));
        Check.illegal("state", () -> book.state(3, 0));
        Check.illegal("came", () -> came(book, -1, 5));
        Check.illegal("came", () -> came(book, 2, -1));
        Check.illegal("came", () -> came(book, 2, MOST + 1));
        Check.stateless("came", () -> came(book, 0, 5));
        Check.illegal("due", () -> book.due(3) ? 1 : 0);
        Check.illegal("written", () -> book.written(3));
        Check.stateless("written", () -> book.written(0));
        Check.illegal("range", () -> book.range(-1, 0, true));
        Check.missing("range", () -> book.range(2, 64, true));
        Check.missing("look", () -> book.look(12));
        Check.illegal("space", () -> book.space(3, 0));
        Check.missing("space", () -> book.space(2, 11));
    }

    /** What is told by later calls alone: what next has left, what was put together, and the times. */
    private static void sameFromHereOn(String where, AckBook got, AckBook want) {
        for (int space = 0; space < 3; space++) {
            for (int k = 0; k < 12; k++) {
                Check.same(where + ": next lost", got.next(space, true), want.next(space, true));
                Check.same(where + ": next acknowledged", got.next(space, false), want.next(space, false));
            }
        }
        Check.same(where + ": span", got.span(0, 0), 1);
        Check.same(where + ": span", want.span(0, 0), 1);
        for (int k = 0; k < 100; k++) {
            Check.same(where + ": tick", got.tick(), want.tick());
            Check.same(where + ": due", got.due(2), want.due(2));
        }
        Snapshot.same(where + " and 100 ticks", Snapshot.of(got), Snapshot.of(want));
    }

    /** '(an old one changes nothing)': one in a range, one of a lower range, and one below FLOOR. */
    private static void oldOnesChangeNothing() {
        for (int space = 0; space < 3; space++) {
            AckBook book = new AckBook();
            for (int k = 0; k < 65; k++) {
                book.came(space, 10 + 2 * k, true);
            }
            book.written(space);
            Check.ticks(book, 30);
            String before = Snapshot.of(book);
            for (long number : new long[] {138, 12, 80, 10, 0}) {
                Check.same("old", came(book, space, number), 0);
                Snapshot.same("after " + number, Snapshot.of(book), before);
            }
            Check.same("the greatest came 30 ticks ago", book.written(space), 30);
            Check.same("FLOOR itself is new", came(book, space, 11), 1);
        }
    }
}
