/** Promises 9 and 10: next and state. */
public final class NextStateTest {
    public static void main(String[] args) {
        orderOfFinding();
        eachSpaceItsOwn();
        states();
        Check.end();
    }

    private static void orderOfFinding() {
        AckBook book = new AckBook();
        book.send(0, 100, true, true);
        Check.quiet(book, 8);
        Check.acknowledged(book, 0, 0, 0, 0);
        Check.sends(book, 0, 100, 9);
        Check.acknowledged(book, 0, 0, 7, 7, 2, 3);
        Check.same("first found", book.next(0, false), 0);
        Check.acknowledged(book, 0, 0, 5, 6);
        int[] acknowledged = {2, 3, 7, 5, 6, -1, -1};
        for (int want : acknowledged) {
            Check.same("next acknowledged", book.next(0, false), want);
        }
        Check.same("next lost", book.next(0, true), 1);
        Check.same("next lost", book.next(0, true), 4);
        Check.same("no more", book.next(0, true), -1);
        Check.acknowledged(book, 0, 0, 9, 9);
        Check.same("after an empty one", book.next(0, false), 9);
        Check.same("no more", book.next(0, false), -1);
        Check.ticks(book, 20);
        Check.same("found by a tick", book.next(0, true), 8);
        Check.same("no more", book.next(0, true), -1);
    }

    private static void eachSpaceItsOwn() {
        AckBook book = new AckBook();
        for (int space = 0; space < 3; space++) {
            Check.sends(book, space, 100, space + 4);
            Check.acknowledged(book, space, 0, space + 3, space + 3);
        }
        for (int space = 2; space >= 0; space--) {
            Check.same("acknowledged", book.next(space, false), space + 3);
            for (int k = 0; k <= space; k++) {
                Check.same("lost", book.next(space, true), k);
            }
            Check.same("no more", book.next(space, true), -1);
        }
        Check.illegal("space -1", () -> book.next(-1, true));
        Check.illegal("space 3", () -> book.next(3, false));
    }

    private static void states() {
        AckBook book = new AckBook();
        Check.sends(book, 2, 100, 5);
        Check.acknowledged(book, 2, 0, 3, 3);
        int[] wants = {2, 0, 0, 1, 0};
        for (int number = 0; number < 5; number++) {
            Check.same("state of " + number, book.state(2, number), wants[number]);
        }
        Check.same("not sent", book.state(2, 5), -1);
        Check.same("below 0", book.state(2, -1), -1);
        Check.same("least", book.state(2, Integer.MIN_VALUE), -1);
        Check.same("greatest", book.state(2, Integer.MAX_VALUE), -1);
        Check.same("another space", book.state(1, 0), -1);
        Check.illegal("space -1", () -> book.state(-1, 0));
        Check.illegal("space 3", () -> book.state(3, 0));
        book.discard(2);
        for (int number = 0; number < 5; number++) {
            Check.same("discarded", book.state(2, number), 3);
        }
        Check.same("not sent and discarded", book.state(2, 5), -1);
    }
}
