/** The edges of THE WAY, PATIENCE, LIMIT and AN ACKNOWLEDGEMENT, each with the words that it is about. */
public final class WayEdgesTest {
    public static void main(String[] args) {
        atFirst();
        firstSampleTakesNoDelay();
        atLeastLeastAndDelay();
        leastIsTheLesserOne();
        delayAtMost25();
        delayIsNothingInTheFirstSpaces();
        delaysFrom0To100000();
        varyAtLeast1();
        limitAtLeast1();
        limitOfTheGreaterOne();
        divisionsCutOff();
        confirmedSpace2();
        greatestNotYetSent();
        greatestIsNotNew();
        noneIsEliciting();
        noneIsNew();
        greatestIfThatIsMore();
        Check.end();
    }

    /** One more packet of a space that is acknowledged after some ticks. */
    private static void sample(AckBook book, int space, int ticks, int delay) {
        int number = book.send(space, 1, true, true);
        Check.ticks(book, ticks);
        Check.acknowledged(book, space, delay, number, number);
    }

    private static void way(String where, AckBook book, int smooth, int vary, int latest, int least) {
        Check.same(where + ": SMOOTH", book.look(5), smooth);
        Check.same(where + ": VARY", book.look(6), vary);
        Check.same(where + ": LATEST", book.look(7), latest);
        Check.same(where + ": LEAST", book.look(8), least);
    }

    /** 'SMOOTH (of eighths) is 800, VARY (of quarters) 200, LATEST 0, LEAST none at first'. */
    private static void atFirst() {
        AckBook book = new AckBook();
        way("new", book, 800, 200, 0, -1);
        Check.same("LIMIT", book.look(10), 112);
        Check.same("PATIENCE", book.space(0, 8), 300);
    }

    /** 'The first sample: SMOOTH 8 * r, VARY 2 * r'. */
    private static void firstSampleTakesNoDelay() {
        AckBook book = new AckBook();
        sample(book, 2, 30, 25);
        way("30 ticks with a delay of 25", book, 240, 60, 30, 30);
        book = new AckBook();
        sample(book, 2, 0, 25);
        way("no tick", book, 0, 0, 0, 0);
        sample(book, 2, 0, 0);
        way("no tick again", book, 0, 0, 0, 0);
        sample(book, 2, 3, 0);
        way("a sample of 0 was the first one", book, 3, 3, 3, 0);
    }

    /** 'if r is at least LEAST + d, r less d counts as r from here on'. */
    private static void atLeastLeastAndDelay() {
        AckBook book = new AckBook();
        sample(book, 2, 8, 0);
        sample(book, 2, 12, 4);
        way("12 is 8 + 4", book, 64, 12, 12, 8);
        book = new AckBook();
        sample(book, 2, 8, 0);
        sample(book, 2, 11, 4);
        way("11 is less than 8 + 4", book, 67, 15, 11, 8);
        book = new AckBook();
        sample(book, 2, 8, 0);
        sample(book, 2, 13, 4);
        way("13 is more than 8 + 4", book, 65, 13, 13, 8);
    }

    /** 'LEAST the lesser one of itself and r': it is r already when the delay is looked at. */
    private static void leastIsTheLesserOne() {
        AckBook book = new AckBook();
        sample(book, 2, 8, 0);
        sample(book, 2, 5, 1);
        way("5 is less than 5 + 1", book, 61, 15, 5, 5);
        sample(book, 2, 5, 0);
        Check.same("the same again", book.look(8), 5);
        sample(book, 2, 6, 0);
        Check.same("a greater one", book.look(8), 5);
        sample(book, 2, 4, 0);
        Check.same("one less", book.look(8), 4);
    }

    /** 'with the delay (at most 25; ..)'. */
    private static void delayAtMost25() {
        int[] delays = {24, 25, 26, 100000};
        int[] counts = {16, 15, 15, 15};
        for (int k = 0; k < delays.length; k++) {
            AckBook book = new AckBook();
            sample(book, 2, 8, 0);
            sample(book, 2, 40, delays[k]);
            way("delay " + delays[k], book, 64 + counts[k] - 8, 16 + counts[k] - 8 - 4, 40, 8);
        }
    }

    /** '0 in the spaces 0 and 1'. */
    private static void delayIsNothingInTheFirstSpaces() {
        for (int space = 0; space < 2; space++) {
            AckBook book = new AckBook();
            sample(book, space, 8, 0);
            sample(book, space, 12, 4);
            way("space " + space, book, 68, 16, 12, 8);
        }
    }

    /** 'delay is not 0 .. 100000'. */
    private static void delaysFrom0To100000() {
        AckBook book = new AckBook();
        Check.sends(book, 2, 1, 2);
        Check.illegal("-1", () -> Check.acknowledged(book, 2, -1, 0, 0));
        Check.illegal("100001", () -> Check.acknowledged(book, 2, 100001, 0, 0));
        Check.illegal("least", () -> Check.acknowledged(book, 2, Integer.MIN_VALUE, 0, 0));
        Check.illegal("greatest", () -> Check.acknowledged(book, 2, Integer.MAX_VALUE, 0, 0));
        Check.same("nothing came", book.space(2, 4), 2);
        Check.same("0", Check.acknowledged(book, 2, 0, 0, 0), 1);
        Check.same("100000", Check.acknowledged(book, 2, 100000, 1, 1), 1);
        AckBook other = new AckBook();
        other.send(0, 1, true, true);
        Check.illegal("in space 0 too", () -> Check.acknowledged(other, 0, 100001, 0, 0));
        Check.illegal("in space 0 too", () -> Check.acknowledged(other, 0, -1, 0, 0));
    }

    /** 'SMOOTH / 8 + (VARY, at least 1)'. */
    private static void varyAtLeast1() {
        AckBook book = new AckBook();
        sample(book, 0, 0, 0);
        Check.same("VARY", book.look(6), 0);
        Check.same("PATIENCE of VARY 0", book.space(0, 8), 1);
        sample(book, 0, 1, 0);
        Check.same("VARY", book.look(6), 1);
        Check.same("PATIENCE of VARY 1", book.space(0, 8), 1);
        book = new AckBook();
        sample(book, 0, 1, 0);
        Check.same("VARY", book.look(6), 2);
        Check.same("PATIENCE of VARY 2", book.space(0, 8), 1 + 2);
    }

    /** 'LIMIT is 9 * (..) / 8, at least 1'. */
    private static void limitAtLeast1() {
        int[] ways = {0, 1, 2, 7, 8, 9};
        int[] limits = {1, 1, 2, 7, 9, 10};
        for (int k = 0; k < ways.length; k++) {
            AckBook book = new AckBook();
            sample(book, 1, ways[k], 0);
            Check.same("LIMIT of a way of " + ways[k], book.look(10), limits[k]);
        }
    }

    /** 'the greater one of SMOOTH / 8 and LATEST'. */
    private static void limitOfTheGreaterOne() {
        AckBook book = new AckBook();
        sample(book, 2, 8, 0);
        sample(book, 2, 18, 0);
        Check.same("SMOOTH / 8 is 9", book.look(5), 74);
        Check.same("LIMIT of LATEST 18", book.look(10), 20);
        sample(book, 2, 3, 0);
        Check.same("SMOOTH / 8 is 8", book.look(5), 68);
        Check.same("LIMIT of SMOOTH / 8", book.look(10), 9);
    }

    /** 'Divisions cut off': SMOOTH / 8, VARY / 4 and 9 * .. / 8. */
    private static void divisionsCutOff() {
        AckBook book = new AckBook();
        sample(book, 2, 8, 0);
        sample(book, 2, 5, 0);
        way("61 and 15", book, 61, 15, 5, 5);
        Check.same("PATIENCE: 61 / 8 is 7", book.space(0, 8), 7 + 15);
        Check.same("LIMIT: 63 / 8 is 7", book.look(10), 7);
        sample(book, 2, 7, 0);
        way("VARY less 15 / 4, which is 3", book, 61, 12, 7, 5);
    }

    /** '(25 in space 2, when it is CONFIRMED)'. */
    private static void confirmedSpace2() {
        AckBook book = new AckBook();
        for (int space = 0; space < 3; space++) {
            Check.same("not confirmed, space " + space, book.space(space, 8), 300);
        }
        book.confirm();
        Check.same("confirmed, space 0", book.space(0, 8), 300);
        Check.same("confirmed, space 1", book.space(1, 8), 300);
        Check.same("confirmed, space 2", book.space(2, 8), 325);
    }

    /** 'If its greatest is not yet sent, it is wrong'. */
    private static void greatestNotYetSent() {
        AckBook book = new AckBook();
        Check.illegal("nothing is sent", () -> Check.acknowledged(book, 2, 0, 0, 0));
        Check.sends(book, 2, 1, 3);
        Check.illegal("3 is not sent", () -> Check.acknowledged(book, 2, 0, 0, 3));
        Check.illegal("3 is not sent, others are", () -> Check.acknowledged(book, 2, 0, 3, 3, 0, 1));
        Check.illegal("2 to the 32, and 2", () -> Check.acknowledged(book, 2, 0, (1L << 32) + 2, (1L << 32) + 2));
        Check.illegal("the greatest long", () -> Check.acknowledged(book, 2, 0, 0, Long.MAX_VALUE));
        Check.spaces("a wrong one changes nothing", book, 2, 3, -1, -1, -1, 3, 3);
        Check.same("LEAST", book.look(8), -1);
        Check.same("2 is sent", Check.acknowledged(book, 2, 0, 0, 2), 3);
    }

    /** 'if its greatest is new': else no sample, though eliciting ones are new. */
    private static void greatestIsNotNew() {
        AckBook book = new AckBook();
        Check.sends(book, 2, 1, 2);
        Check.ticks(book, 4);
        Check.acknowledged(book, 2, 0, 1, 1);
        way("a sample", book, 32, 8, 4, 4);
        Check.sends(book, 2, 1, 2);
        Check.acknowledged(book, 2, 0, 3, 3);
        int smooth = book.look(5);
        int latest = book.look(7);
        Check.same("2 is new, 3 is not", Check.acknowledged(book, 2, 0, 2, 3), 1);
        Check.same("SMOOTH", book.look(5), smooth);
        Check.same("LATEST", book.look(7), latest);
    }

    /** 'and one that is new is eliciting': the greatest need not be, one that is not new does not count. */
    private static void noneIsEliciting() {
        AckBook book = new AckBook();
        book.send(2, 1, true, true);
        book.send(2, 1, false, true);
        Check.ticks(book, 2);
        Check.acknowledged(book, 2, 0, 1, 1);
        Check.same("1 alone is not eliciting", book.look(8), -1);
        book.send(2, 1, false, true);
        Check.acknowledged(book, 2, 0, 0, 0);
        Check.same("the greatest is new and eliciting", book.look(8), 2);
        Check.ticks(book, 5);
        Check.acknowledged(book, 2, 0, 2, 2, 0, 0);
        Check.same("0 is eliciting and not new", book.look(7), 2);
        book.send(2, 1, true, true);
        Check.ticks(book, 1);
        book.send(2, 1, false, false);
        Check.ticks(book, 3);
        Check.acknowledged(book, 2, 0, 3, 4);
        Check.same("the time since the greatest was sent", book.look(7), 3);
    }

    /** 'If there are some': without one new there is no look for losses, and BACKOFF stays. */
    private static void noneIsNew() {
        AckBook book = new AckBook();
        book.send(2, 1, true, true);
        book.send(2, 1, false, false);
        book.send(1, 1, true, true);
        Check.acknowledged(book, 2, 0, 1, 1);
        Check.same("LOSS TIME", book.space(2, 2), 112);
        Check.ticks(book, 50);
        Check.acknowledged(book, 1, 0, 0, 0);
        Check.same("LIMIT", book.look(10), 56);
        Check.same("nothing is new", Check.acknowledged(book, 2, 0, 1, 1), 0);
        Check.same("no look for losses", book.space(2, 2), 112);
        book.send(2, 1, false, false);
        Check.same("something is new", Check.acknowledged(book, 2, 0, 2, 2), 1);
        Check.same("a look for losses", book.space(2, 2), 56);
    }

    /** 'GREATEST ACKNOWLEDGED of the space is its greatest, if that is more'. */
    private static void greatestIfThatIsMore() {
        AckBook book = new AckBook();
        Check.sends(book, 2, 1, 4);
        Check.acknowledged(book, 2, 0, 0, 0);
        Check.same("0", book.space(2, 1), 0);
        Check.acknowledged(book, 2, 0, 2, 2);
        Check.same("2", book.space(2, 1), 2);
        Check.acknowledged(book, 2, 0, 1, 1);
        Check.same("1 is not more", book.space(2, 1), 2);
        Check.acknowledged(book, 2, 0, 2, 2);
        Check.same("2 again", book.space(2, 1), 2);
        Check.same("of another space", book.space(1, 1), -1);
    }
}
