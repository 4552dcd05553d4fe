/** Promises 11 and 14: came and range. */
public final class CameTest {
    private static final long MOST = 4611686018427387903L;

    public static void main(String[] args) {
        rangesJoin();
        atMostSixtyFour();
        theLowestIsTheNewOne();
        wrongInputs();
        Check.end();
    }

    private static void came(AckBook book, long number, boolean want) {
        Check.same("came(1, " + number + ", true)", book.came(1, number, true), want);
    }

    private static void ranges(AckBook book, long... lowsAndHighs) {
        int count = lowsAndHighs.length / 2;
        Check.same("ranges", book.space(1, 6), count);
        for (int k = 0; k < count; k++) {
            Check.same("least of range " + k, book.range(1, k, false), lowsAndHighs[2 * k]);
            Check.same("greatest of range " + k, book.range(1, k, true), lowsAndHighs[2 * k + 1]);
        }
        Check.missing("range " + count, () -> book.range(1, count, true));
        Check.missing("range -1", () -> book.range(1, -1, false));
    }

    private static void rangesJoin() {
        AckBook book = new AckBook();
        ranges(book);
        came(book, 10, true);
        ranges(book, 10, 10);
        came(book, 12, true);
        ranges(book, 12, 12, 10, 10);
        came(book, 9, true);
        came(book, 13, true);
        came(book, 5, true);
        ranges(book, 12, 13, 9, 10, 5, 5);
        came(book, 11, true);
        ranges(book, 9, 13, 5, 5);
        came(book, 7, true);
        ranges(book, 9, 13, 7, 7, 5, 5);
        came(book, 8, true);
        came(book, 6, true);
        ranges(book, 5, 13);
        for (int number = 5; number <= 13; number++) {
            came(book, number, false);
        }
        Check.same("pending", book.space(1, 7), 9);
        came(book, 0, true);
        came(book, MOST, true);
        came(book, MOST, false);
        ranges(book, MOST, MOST, 5, 13, 0, 0);
        Check.same("other spaces", book.space(0, 6) + book.space(2, 6), 0);
    }

    private static void atMostSixtyFour() {
        AckBook book = new AckBook();
        for (int k = 0; k < 64; k++) {
            came(book, 10 + 3 * k, true);
        }
        Check.same("ranges", book.space(1, 6), 64);
        Check.same("FLOOR", book.space(1, 10), 0);
        came(book, 11, true);
        Check.same("FLOOR without one more range", book.space(1, 10), 0);
        came(book, 1000, true);
        Check.same("ranges", book.space(1, 6), 64);
        Check.same("FLOOR", book.space(1, 10), 12);
        Check.same("the lowest", book.range(1, 63, false), 13);
        Check.missing("range 64", () -> book.range(1, 64, true));
        came(book, 11, false);
        came(book, 9, false);
        came(book, 0, false);
        came(book, 12, true);
        Check.same("it joins", book.range(1, 63, false), 12);
        Check.same("ranges", book.space(1, 6), 64);
        came(book, 500, true);
        Check.same("one more between", book.space(1, 10), 14);
        Check.same("range 1", book.range(1, 1, true), 500);
        came(book, 999, true);
        Check.same("range 0", book.range(1, 0, false), 999);
        Check.same("the lowest", book.range(1, 63, false), 16);
    }

    private static void theLowestIsTheNewOne() {
        AckBook book = new AckBook();
        for (int k = 0; k < 64; k++) {
            came(book, 10 + 2 * k, true);
        }
        book.written(1);
        came(book, 5, true);
        Check.same("it goes at once", book.space(1, 10), 6);
        Check.same("it is pending", book.space(1, 7), 1);
        Check.same("the lowest", book.range(1, 63, false), 10);
        came(book, 5, false);
        came(book, 6, true);
        Check.same("FLOOR", book.space(1, 10), 7);
        came(book, 9, true);
        Check.same("FLOOR", book.space(1, 10), 7);
        Check.same("it joins", book.range(1, 63, false), 9);
    }

    private static void wrongInputs() {
        AckBook book = new AckBook();
        Check.illegal("space -1", () -> book.came(-1, 0, true) ? 1 : 0);
        Check.illegal("space 3", () -> book.came(3, 0, true) ? 1 : 0);
        Check.illegal("number -1", () -> book.came(0, -1, true) ? 1 : 0);
        Check.illegal("number too great", () -> book.came(0, MOST + 1, true) ? 1 : 0);
        Check.illegal("least", () -> book.came(0, Long.MIN_VALUE, true) ? 1 : 0);
        Check.illegal("greatest", () -> book.came(0, Long.MAX_VALUE, true) ? 1 : 0);
        book.discard(0);
        Check.stateless("discarded", () -> book.came(0, 0, true) ? 1 : 0);
        Check.illegal("no such number comes ahead of discarded", () -> book.came(0, -1, true) ? 1 : 0);
        Check.illegal("range of space -1", () -> book.range(-1, 0, true));
        Check.illegal("range of space 3", () -> book.range(3, 0, true));
        Check.missing("range of a discarded space", () -> book.range(0, 0, true));
        Check.missing("no range", () -> book.range(1, 0, true));
        Check.missing("greatest k", () -> book.range(1, Integer.MAX_VALUE, true));
        Check.missing("least k", () -> book.range(1, Integer.MIN_VALUE, true));
    }
}
