/** The edges of the section SENT, each with the words of the document that it is about. */
public final class SentEdgesTest {
    public static void main(String[] args) {
        sizes();
        countedAsAllElicitingOnesAre();
        moreThanWindowLess1200();
        inFlightOfAllSpaces();
        notCountedIsNotInFlight();
        notOutIsNotInFlight();
        fillingIsOfTheSending();
        atMost4096();
        Check.end();
    }

    private static void window(String where, AckBook book, int want) {
        Check.same(where + ": WINDOW", book.look(2), want);
    }

    /** 'size is not 1 .. 1200'. */
    private static void sizes() {
        AckBook book = new AckBook();
        Check.same("size 1", book.send(0, 1, true, true), 0);
        Check.same("size 1200", book.send(0, 1200, true, true), 1);
        Check.illegal("size 0", () -> book.send(0, 0, true, true));
        Check.illegal("size 1201", () -> book.send(0, 1201, true, true));
        Check.illegal("size 65537", () -> book.send(0, 65537, true, true));
        Check.same("in flight", book.look(1), 1201);
    }

    /** 'COUNTED (as all eliciting ones are)', 'or it is eliciting and not counted'. */
    private static void countedAsAllElicitingOnesAre() {
        AckBook book = new AckBook();
        Check.illegal("eliciting, not counted", () -> book.send(0, 10, true, false));
        Check.same("eliciting, counted", book.send(0, 10, true, true), 0);
        Check.same("in flight", book.look(1), 10);
        Check.same("not eliciting, counted", book.send(0, 20, false, true), 1);
        Check.same("in flight", book.look(1), 30);
        Check.same("neither", book.send(0, 40, false, false), 2);
        Check.same("in flight", book.look(1), 30);
        Check.same("out", book.space(0, 4), 3);
        Check.same("eliciting ones out", book.space(0, 5), 1);
    }

    /** 'FILLING: with it, IN FLIGHT was more than WINDOW - 1200'. */
    private static void moreThanWindowLess1200() {
        AckBook book = new AckBook();
        Check.sends(book, 0, 1200, 9);
        Check.acknowledged(book, 0, 0, 0, 8);
        window("10800 is not more", book, 12000);
        book = new AckBook();
        Check.sends(book, 0, 1200, 8);
        book.send(0, 1199, true, true);
        book.send(0, 2, true, true);
        Check.acknowledged(book, 0, 0, 0, 9);
        window("10801 is more", book, 12002);
    }

    /** 'IN FLIGHT is the size of all counted ones that are out, in all spaces'. */
    private static void inFlightOfAllSpaces() {
        AckBook book = new AckBook();
        Check.sends(book, 0, 1200, 5);
        Check.sends(book, 1, 1200, 4);
        Check.same("in flight", book.look(1), 10800);
        book.send(2, 1, true, true);
        Check.same("in flight", book.look(1), 10801);
        Check.acknowledged(book, 2, 0, 0, 0);
        window("it fills with those of other spaces", book, 12001);
        Check.acknowledged(book, 0, 0, 0, 4);
        Check.acknowledged(book, 1, 0, 0, 3);
        window("those do not fill", book, 12001);
        Check.same("in flight", book.look(1), 0);
    }

    /** 'all counted ones': one not counted fills nothing, and WINDOW does not grow by it. */
    private static void notCountedIsNotInFlight() {
        AckBook book = new AckBook();
        Check.sends(book, 0, 1200, 8);
        book.send(0, 1200, false, false);
        book.send(0, 1200, true, true);
        book.send(0, 1200, false, false);
        Check.same("in flight", book.look(1), 10800);
        Check.acknowledged(book, 0, 0, 0, 10);
        window("10800 without them", book, 12000);
        book = new AckBook();
        Check.sends(book, 0, 1200, 10);
        book.send(0, 1200, false, false);
        Check.acknowledged(book, 0, 0, 10, 10);
        // 0 .. 7 are lost by it, 8 and 9 stay out.
        Check.same("in flight after one not counted", book.look(1), 2400);
        window("half of 12000, which did not grow by it", book, 6000);
    }

    /** 'that are out': acknowledged, lost and discarded ones are in flight no more. */
    private static void notOutIsNotInFlight() {
        AckBook book = new AckBook();
        Check.sends(book, 0, 1200, 9);
        Check.acknowledged(book, 0, 0, 0, 8);
        book.send(0, 1200, true, true);
        Check.same("acknowledged", book.look(1), 1200);
        Check.acknowledged(book, 0, 0, 9, 9);
        window("acknowledged", book, 12000);
        book = new AckBook();
        Check.sends(book, 0, 1200, 9);
        book.discard(0);
        Check.same("discarded", book.look(1), 0);
        book.send(1, 1200, true, true);
        Check.acknowledged(book, 1, 0, 0, 0);
        window("discarded", book, 12000);
        book = new AckBook();
        Check.sends(book, 0, 1200, 5);
        Check.acknowledged(book, 0, 0, 4, 4);
        Check.same("two are lost", book.look(1), 2400);
    }

    /** 'with it, IN FLIGHT was': nothing that comes later changes whether it is filling. */
    private static void fillingIsOfTheSending() {
        AckBook book = new AckBook();
        Check.sends(book, 0, 1200, 12);
        Check.acknowledged(book, 0, 0, 0, 8);
        window("none of these fills", book, 12000);
        for (int number = 9; number < 12; number++) {
            Check.acknowledged(book, 0, 0, number, number);
            window("it filled when it was sent", book, 12000 + 1200 * (number - 8));
        }
    }

    /** 'each space has at most 4096 packets sent', 'or has 4096'; it takes more than 512 calls. */
    private static void atMost4096() {
        AckBook book = new AckBook();
        Check.sends(book, 1, 1, 4095);
        Check.same("the last one", book.send(1, 1, true, true), 4095);
        Check.stateless("one more", () -> book.send(1, 1, true, true));
        Check.same("how many", book.space(1, 0), 4096);
        Check.same("in flight", book.look(1), 4096);
        Check.illegal("not yet sent", () -> Check.acknowledged(book, 1, 0, 0, 4096));
        Check.same("all come", Check.acknowledged(book, 1, 0, 0, 4095), 4096);
        Check.stateless("acknowledged ones are sent still", () -> book.send(1, 1, true, true));
        Check.same("state of the last", book.state(1, 4095), 1);
        Check.same("state of one more", book.state(1, 4096), -1);
    }
}
