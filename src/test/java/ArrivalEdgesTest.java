/** The edges of CAME, PENDING, DUE and DELAY, each with the words of the document that it is about. */
public final class ArrivalEdgesTest {
    private static final long MOST = 4611686018427387903L;

    public static void main(String[] args) {
        numbers();
        gapsBetween();
        atMost64();
        joinedWhenFull();
        lowestGoesWithAllItsNumbers();
        lowestIsTheNewOne();
        belowFloor();
        noSuchRange();
        pendingUntilWritten();
        dueInTheFirstSpaces();
        twoPending();
        notOneMoreThanTheGreatest();
        notZeroIfItWasTheFirst();
        gapStaysUntilWritten();
        twentyFiveTicks();
        delaySinceTheGreatestCame();
        nothingCame();
        Check.end();
    }

    private static void came(AckBook book, int space, long number, boolean want) {
        Check.same("came(" + space + ", " + number + ")", book.came(space, number, true), want);
    }

    private static void range(AckBook book, int space, int k, long least, long greatest) {
        Check.same("least of range " + k, book.range(space, k, false), least);
        Check.same("greatest of range " + k, book.range(space, k, true), greatest);
    }

    /** As many numbers as are told, each a range, from 100 on upwards by 10. */
    private static AckBook ranges(int space, int count) {
        AckBook book = new AckBook();
        for (int k = 0; k < count; k++) {
            came(book, space, 100 + 10 * k, true);
        }
        Check.same("ranges", book.space(space, 6), Math.min(count, 64));
        return book;
    }

    /** 'A number (0 .. 4611686018427387903)'. */
    private static void numbers() {
        for (int space = 0; space < 3; space++) {
            AckBook book = new AckBook();
            int its = space;
            Check.illegal("-1", () -> book.came(its, -1, true) ? 1 : 0);
            Check.illegal("one too great", () -> book.came(its, MOST + 1, true) ? 1 : 0);
            Check.illegal("least", () -> book.came(its, Long.MIN_VALUE, true) ? 1 : 0);
            Check.illegal("greatest", () -> book.came(its, Long.MAX_VALUE, true) ? 1 : 0);
            Check.same("nothing came", book.space(space, 6), 0);
            Check.same("nothing is pending", book.space(space, 7), 0);
            came(book, space, 0, true);
            came(book, space, MOST, true);
            came(book, space, 0, false);
            came(book, space, MOST, false);
            came(book, space, MOST - 1, true);
            came(book, space, 1, true);
            Check.same("ranges", book.space(space, 6), 2);
            range(book, space, 0, MOST - 1, MOST);
            range(book, space, 1, 0, 1);
        }
    }

    /** 'as ranges with gaps between'. */
    private static void gapsBetween() {
        AckBook book = new AckBook();
        came(book, 0, 10, true);
        came(book, 0, 8, true);
        Check.same("a gap of one", book.space(0, 6), 2);
        came(book, 0, 9, true);
        Check.same("none", book.space(0, 6), 1);
        range(book, 0, 0, 8, 10);
        came(book, 0, 11, true);
        range(book, 0, 0, 8, 11);
        came(book, 0, 7, true);
        range(book, 0, 0, 7, 11);
        came(book, 0, 13, true);
        came(book, 0, 5, true);
        range(book, 0, 0, 13, 13);
        range(book, 0, 1, 7, 11);
        range(book, 0, 2, 5, 5);
        for (int number : new int[] {5, 7, 8, 9, 10, 11, 13}) {
            came(book, 0, number, false);
        }
        for (int number : new int[] {6, 12, 4, 14}) {
            came(book, 0, number, true);
        }
        Check.same("all joined", book.space(0, 6), 1);
        range(book, 0, 0, 4, 14);
    }

    /** 'at most 64: with one more the lowest one goes, and FLOOR is 1 more than its greatest (0 at first)'. */
    private static void atMost64() {
        AckBook book = ranges(2, 63);
        came(book, 2, 5000, true);
        Check.same("64 stay", book.space(2, 6), 64);
        Check.same("FLOOR at first", book.space(2, 10), 0);
        range(book, 2, 63, 100, 100);
        came(book, 2, 6000, true);
        Check.same("64 stay", book.space(2, 6), 64);
        Check.same("FLOOR", book.space(2, 10), 101);
        range(book, 2, 63, 110, 110);
        range(book, 2, 0, 6000, 6000);
        came(book, 2, 5500, true);
        Check.same("one more in the middle", book.space(2, 10), 111);
        range(book, 2, 1, 5500, 5500);
        range(book, 2, 63, 120, 120);
        Check.same("of another space", book.space(1, 10), 0);
    }

    /** A number that joins ranges is not one range more. */
    private static void joinedWhenFull() {
        AckBook book = ranges(1, 64);
        came(book, 1, 101, true);
        came(book, 1, 99, true);
        Check.same("FLOOR", book.space(1, 10), 0);
        came(book, 1, 112, true);
        Check.same("one more", book.space(1, 10), 102);
        came(book, 1, 111, true);
        Check.same("110 .. 112 are joined", book.space(1, 6), 63);
        came(book, 1, 2000, true);
        Check.same("64 again", book.space(1, 6), 64);
        Check.same("none went", book.space(1, 10), 102);
        range(book, 1, 63, 110, 112);
    }

    private static void lowestGoesWithAllItsNumbers() {
        AckBook book = ranges(0, 64);
        for (int number = 101; number <= 105; number++) {
            came(book, 0, number, true);
        }
        came(book, 0, 3000, true);
        Check.same("FLOOR", book.space(0, 10), 106);
        for (int number = 98; number <= 105; number++) {
            came(book, 0, number, false);
        }
        came(book, 0, 106, true);
        Check.same("106 is a range, and goes", book.space(0, 10), 107);
        came(book, 0, 109, true);
        range(book, 0, 63, 109, 110);
        Check.same("109 joins", book.space(0, 10), 107);
    }

    /** The lowest one may be the one that came. */
    private static void lowestIsTheNewOne() {
        AckBook book = ranges(0, 64);
        book.written(0);
        came(book, 0, 0, true);
        Check.same("FLOOR", book.space(0, 10), 1);
        Check.same("ranges", book.space(0, 6), 64);
        range(book, 0, 63, 100, 100);
        Check.same("pending", book.space(0, 7), 1);
        came(book, 0, 0, false);
        came(book, 0, 1, true);
        Check.same("FLOOR", book.space(0, 10), 2);
    }

    /** 'or below FLOOR, is OLD', '(an old one changes nothing)'. */
    private static void belowFloor() {
        AckBook book = ranges(2, 65);
        book.written(2);
        Check.ticks(book, 7);
        for (long number : new long[] {0, 50, 99, 100}) {
            came(book, 2, number, false);
        }
        Check.same("nothing is pending", book.space(2, 7), 0);
        Check.same("nothing is due", book.due(2), false);
        Check.same("ranges", book.space(2, 6), 64);
        Check.same("FLOOR", book.space(2, 10), 101);
        Check.same("DELAY", book.written(2), 7);
        came(book, 2, 101, true);
        Check.same("FLOOR itself is new", book.space(2, 7), 1);
    }

    /** 'NoSuchElementException when there is no such range'. */
    private static void noSuchRange() {
        AckBook book = ranges(2, 65);
        for (int k : new int[] {-1, 64, 65, Integer.MIN_VALUE, Integer.MAX_VALUE}) {
            Check.missing("range " + k, () -> book.range(2, k, true));
            Check.missing("range " + k, () -> book.range(2, k, false));
        }
        range(book, 2, 63, 110, 110);
        range(book, 2, 0, 740, 740);
        AckBook none = new AckBook();
        Check.missing("range 0 of none", () -> none.range(2, 0, true));
        none.came(2, 0, false);
        range(none, 2, 0, 0, 0);
        Check.missing("range 1 of one", () -> none.range(2, 1, true));
    }

    /** 'One that came new and is eliciting is PENDING until an acknowledgement is written'. */
    private static void pendingUntilWritten() {
        AckBook book = new AckBook();
        for (int space = 0; space < 3; space++) {
            book.came(space, 0, true);
            book.came(space, 1, false);
            book.came(space, 2, true);
            book.came(space, 2, true);
            Check.same("pending", book.space(space, 7), 2);
        }
        book.written(1);
        Check.same("written", book.space(1, 7), 0);
        Check.same("not in space 0", book.space(0, 7), 2);
        Check.same("not in space 2", book.space(2, 7), 2);
        Check.same("due in space 0", book.due(0), true);
        Check.same("due in space 1", book.due(1), false);
        Check.same("due in space 2", book.due(2), true);
    }

    /** 'in the spaces 0 and 1 as soon as something is pending'. */
    private static void dueInTheFirstSpaces() {
        for (int space = 0; space < 2; space++) {
            AckBook book = new AckBook();
            Check.same("nothing came", book.due(space), false);
            book.came(space, 0, false);
            book.came(space, 5, false);
            Check.same("nothing is pending", book.due(space), false);
            book.came(space, 6, true);
            Check.same("one is", book.due(space), true);
        }
    }

    /** 'in space 2, when two are pending'. */
    private static void twoPending() {
        AckBook book = new AckBook();
        book.came(2, 0, true);
        Check.same("one", book.due(2), false);
        book.came(2, 1, false);
        Check.same("one", book.due(2), false);
        book.came(2, 2, true);
        Check.same("two", book.due(2), true);
        book.came(2, 3, true);
        Check.same("three", book.due(2), true);
        book.written(2);
        Check.same("none", book.due(2), false);
        book.came(2, 4, true);
        Check.same("one", book.due(2), false);
    }

    /** 'or one is that was not 1 more than the greatest that had come before it'. */
    private static void notOneMoreThanTheGreatest() {
        int[] numbers = {11, 12, 9, 8, 3, 0};
        for (int number : numbers) {
            AckBook book = new AckBook();
            book.came(2, 5, false);
            book.came(2, 10, false);
            book.came(2, number, true);
            Check.same("10, then " + number, book.due(2), number != 11);
        }
        AckBook top = new AckBook();
        top.came(2, MOST - 1, false);
        top.came(2, MOST, true);
        Check.same("the greatest number in order", top.due(2), false);
        AckBook gap = new AckBook();
        gap.came(2, MOST - 2, false);
        gap.came(2, MOST, true);
        Check.same("the greatest number behind a gap", gap.due(2), true);
    }

    /** '(not 0, if it was the first)'. */
    private static void notZeroIfItWasTheFirst() {
        for (long number : new long[] {0, 1, 2, MOST}) {
            AckBook book = new AckBook();
            book.came(2, number, true);
            Check.same("first " + number, book.due(2), number != 0);
        }
        AckBook book = new AckBook();
        book.came(2, 3, false);
        book.came(2, 0, true);
        Check.same("0, but not the first", book.due(2), true);
    }

    /** What was found when it came stays, though the gap is filled by ones that are not pending. */
    private static void gapStaysUntilWritten() {
        AckBook book = new AckBook();
        book.came(2, 1, true);
        book.came(2, 0, false);
        Check.same("the gap is filled", book.space(2, 6), 1);
        Check.same("due still", book.due(2), true);
        book.written(2);
        book.came(2, 2, true);
        Check.same("in order after it was written", book.due(2), false);
        book.came(2, 9, false);
        Check.same("one that is not pending makes a gap", book.due(2), false);
    }

    /** 'or 25 ticks after the first one of the pending came'. */
    private static void twentyFiveTicks() {
        AckBook book = new AckBook();
        Check.ticks(book, 3);
        book.came(2, 0, false);
        Check.ticks(book, 3);
        book.came(2, 1, true);
        Check.ticks(book, 20);
        book.came(2, 2, false);
        book.came(2, 1, true);
        Check.ticks(book, 4);
        Check.same("24 ticks", book.due(2), false);
        book.tick();
        Check.same("25 ticks", book.due(2), true);
        book.written(2);
        Check.ticks(book, 30);
        Check.same("nothing is pending", book.due(2), false);
        book.came(2, 3, true);
        Check.same("the first one of the pending is another one", book.due(2), false);
        Check.ticks(book, 24);
        Check.same("24 ticks", book.due(2), false);
        book.tick();
        Check.same("25 ticks", book.due(2), true);
    }

    /** 'DELAY is the time since the greatest came'. */
    private static void delaySinceTheGreatestCame() {
        for (int space = 0; space < 3; space++) {
            AckBook book = new AckBook();
            Check.ticks(book, 5);
            book.came(space, 4, true);
            Check.same("at once", book.written(space), 0);
            Check.ticks(book, 9);
            book.came(space, 2, true);
            book.came(space, 3, true);
            Check.same("lower ones", book.written(space), 9);
            book.came(space, 4, true);
            Check.same("the greatest again", book.written(space), 9);
            book.came(space, 5, false);
            book.tick();
            Check.same("a greater one, not eliciting", book.written(space), 1);
            Check.same("written twice", book.written(space), 1);
        }
    }

    /** 'IllegalStateException when nothing came in it'. */
    private static void nothingCame() {
        AckBook book = new AckBook();
        for (int space = 0; space < 3; space++) {
            int its = space;
            Check.stateless("nothing came", () -> book.written(its));
            book.came(space, 0, false);
            Check.same("something came, nothing is pending", book.written(space), 0);
        }
    }
}
