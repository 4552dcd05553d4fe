/** Promise 3: span. */
public final class SpanTest {
    public static void main(String[] args) {
        order();
        edgesOfLong();
        atMostSixtyFour();
        Check.end();
    }

    private static void order() {
        AckBook book = new AckBook();
        Check.illegal("low below 0", () -> book.span(-1, 5));
        Check.illegal("high below low", () -> book.span(5, 4));
        Check.same("first", book.span(20, 30), 1);
        Check.illegal("the same again", () -> book.span(20, 30));
        Check.illegal("above", () -> book.span(40, 50));
        Check.illegal("overlapping", () -> book.span(15, 20));
        Check.illegal("no number between", () -> book.span(15, 19));
        Check.illegal("wrong in itself and not below", () -> book.span(50, 40));
        Check.same("one number between", book.span(18, 18), 2);
        Check.same("far below", book.span(1, 2), 3);
        Check.illegal("nothing fits below", () -> book.span(0, 0));
        Check.sends(book, 0, 100, 31);
        Check.same("what was refused is not in it", book.acknowledge(0, 0), 11 + 1 + 2);
    }

    private static void edgesOfLong() {
        AckBook book = new AckBook();
        Check.illegal("least", () -> book.span(Long.MIN_VALUE, Long.MAX_VALUE));
        Check.same("greatest", book.span(Long.MAX_VALUE, Long.MAX_VALUE), 1);
        Check.illegal("touching", () -> book.span(3, Long.MAX_VALUE - 1));
        Check.same("all below", book.span(0, Long.MAX_VALUE - 2), 2);
        Check.illegal("below 0", () -> book.span(0, Long.MAX_VALUE));
        Check.illegal("negative", () -> book.span(-5, -3));
    }

    private static void atMostSixtyFour() {
        AckBook book = new AckBook();
        for (int k = 1; k <= 64; k++) {
            Check.same("span", book.span(1000 - 2 * k, 1000 - 2 * k), k);
        }
        Check.stateless("the 65th", () -> book.span(3, 4));
        Check.illegal("a wrong one comes ahead of full", () -> book.span(4, 3));
        Check.illegal("one not below comes ahead of full", () -> book.span(900, 900));
        Check.illegal("nothing was sent", () -> book.acknowledge(0, 0));
        Check.same("begun anew", book.span(1000, 1000), 1);
    }
}
