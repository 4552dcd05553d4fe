/** The edges of WINDOW, THRESHOLD and RECOVERY, each with the words of the document that it is about. */
public final class WindowEdgesTest {
    public static void main(String[] args) {
        noThresholdIsAboveAll();
        belowThreshold();
        oneBelowThreshold();
        slowGrowthCutsOff();
        byRisingNumbers();
        sentAfterRecovery();
        anyIfThereIsNoRecovery();
        oneOfTheCounted();
        halfOfWindow();
        atLeast2400();
        noRoom();
        Check.end();
    }

    private static void flow(String where, AckBook book, int window, int threshold, int recovery) {
        Check.same(where + ": WINDOW", book.look(2), window);
        Check.same(where + ": THRESHOLD", book.look(3), threshold);
        Check.same(where + ": RECOVERY", book.look(4), recovery);
    }

    /**
     * A book after a long silence: at 88 WINDOW is 2400, THRESHOLD 6000, RECOVERY none, and nothing
     * is in flight but what was sent in space 0.
     */
    private static AckBook collapsed(int inSpace0) {
        AckBook book = new AckBook();
        book.send(2, 100, true, true);
        book.tick();
        Check.acknowledged(book, 2, 0, 0, 0);
        book.tick();
        book.send(2, 100, true, true);
        Check.quiet(book, 85);
        Check.sends(book, 0, 1200, inSpace0);
        Check.sends(book, 2, 100, 4);
        book.tick();
        Check.acknowledged(book, 2, 0, 5, 5);
        return book;
    }

    /** Packets of space 2, sent and acknowledged at once. */
    private static void through(AckBook book, int... sizes) {
        int first = (int) book.space(2, 0);
        for (int size : sizes) {
            book.send(2, size, true, true);
        }
        Check.same("all are new", Check.acknowledged(book, 2, 0, first, first + sizes.length - 1), sizes.length);
    }

    /** One small packet of space 2 is lost, sent a tick after all before it. */
    private static void lose(AckBook book) {
        book.tick();
        int first = (int) book.space(2, 0);
        Check.sends(book, 2, 1, 4);
        Check.acknowledged(book, 2, 0, first + 1, first + 3);
        Check.same("lost", book.state(2, first), 2);
    }

    /** 'THRESHOLD none at first (all is below it)'. */
    private static void noThresholdIsAboveAll() {
        AckBook book = new AckBook();
        flow("new", book, 12000, -1, -1);
        int window = 12000;
        for (int round = 0; round < 5; round++) {
            int before = (window - 1200) / 1200;
            int[] sizes = new int[before + 1];
            java.util.Arrays.fill(sizes, 1200);
            through(book, sizes);
            window += 1200;
            flow("round " + round, book, window, -1, -1);
        }
    }

    /** 'below THRESHOLD by its size; else by 1200 * size / WINDOW'. */
    private static void belowThreshold() {
        AckBook book = collapsed(0);
        flow("collapsed", book, 2400, 6000, -1);
        through(book, 1200);
        flow("1200 is not more than 1200", book, 2400, 6000, -1);
        through(book, 1200, 1200);
        flow("by its size", book, 3600, 6000, -1);
        through(book, 1200, 1200, 1200);
        flow("by its size", book, 4800, 6000, -1);
        through(book, 1200, 1200, 1200, 1200);
        flow("up to THRESHOLD", book, 6000, 6000, -1);
        through(book, 1200, 1200, 1200, 1200, 1200);
        flow("at THRESHOLD", book, 6240, 6000, -1);
        through(book, 1200, 1200, 1200, 1200, 1200);
        flow("above THRESHOLD", book, 6470, 6000, -1);
    }

    private static void oneBelowThreshold() {
        AckBook book = collapsed(0);
        through(book, 1200, 1200);
        through(book, 1200, 1200, 1200);
        through(book, 1200, 1200, 1200, 1199);
        flow("1 below THRESHOLD", book, 5999, 6000, -1);
        through(book, 1200, 1200, 1200, 1200);
        flow("by the whole size", book, 7199, 6000, -1);
    }

    /** 'Divisions cut off', of 1200 * size / WINDOW. */
    private static void slowGrowthCutsOff() {
        AckBook book = collapsed(0);
        through(book, 1200, 1200);
        through(book, 1200, 1200, 1200);
        through(book, 1200, 1200, 1200, 1200);
        through(book, 1200, 1200, 1200, 1200, 4);
        flow("4800 / 6000", book, 6000, 6000, -1);
        through(book, 1200, 1200, 1200, 1200, 5);
        flow("6000 / 6000", book, 6001, 6000, -1);
        through(book, 1200, 1200, 1200, 1200, 5);
        flow("6000 / 6001", book, 6001, 6000, -1);
    }

    /** 'Then each one that is new, by rising numbers, is acknowledged': WINDOW grows one by one. */
    private static void byRisingNumbers() {
        AckBook book = collapsed(0);
        through(book, 1200, 1200);
        through(book, 1200, 1200, 1200);
        through(book, 1200, 1200, 1200, 1199);
        int first = (int) book.space(2, 0);
        Check.sends(book, 2, 1200, 4);
        book.send(2, 600, true, true);
        book.send(2, 1000, false, true);
        Check.acknowledged(book, 2, 0, first + 5, first + 5, first, first + 3);
        // 5999 and 1200, then 1200000 / 7199 = 166; the one of 600 is not in it.
        flow("5999 + 1200 + 166", book, 7365, 6000, -1);
    }

    /** 'a packet that was sent after RECOVERY': one sent at its time is not. */
    private static void sentAfterRecovery() {
        for (int late = 0; late < 2; late++) {
            AckBook book = new AckBook();
            book.tick();
            Check.sends(book, 0, 1, 4);
            Check.acknowledged(book, 0, 0, 1, 3);
            flow("a loss", book, 6000, 6000, 1);
            Check.ticks(book, late);
            Check.sends(book, 2, 1200, 5);
            Check.acknowledged(book, 2, 0, 0, 4);
            flow("sent " + late + " after RECOVERY", book, late == 0 ? 6000 : 6240, 6000, 1);
        }
        for (int late = 0; late < 2; late++) {
            AckBook book = new AckBook();
            book.tick();
            Check.sends(book, 0, 1, 4);
            Check.acknowledged(book, 0, 0, 1, 3);
            Check.ticks(book, late);
            Check.sends(book, 2, 1, 4);
            Check.acknowledged(book, 2, 0, 1, 3);
            Check.same("lost", book.state(2, 0), 2);
            flow("lost, sent " + late + " after RECOVERY", book, late == 0 ? 6000 : 3000,
                    late == 0 ? 6000 : 3000, late == 0 ? 1 : 2);
        }
    }

    /** '(any, if none)', '(or there is none)': a collapse takes RECOVERY away. */
    private static void anyIfThereIsNoRecovery() {
        AckBook book = collapsed(10);
        // With 100 in flight before them, 8 and 9 of space 0 fill, and so does 5 of space 2.
        flow("collapsed", book, 2400, 6050, -1);
        Check.acknowledged(book, 0, 0, 0, 9);
        flow("sent before the collapse", book, 4800, 6050, -1);
        book = collapsed(10);
        Check.acknowledged(book, 0, 0, 9, 9);
        Check.same("lost", book.state(0, 0), 2);
        flow("lost, sent before the collapse", book, 2400, 1800, 88);
    }

    /** 'if one of the counted was sent after RECOVERY'. */
    private static void oneOfTheCounted() {
        for (int counted = 0; counted < 2; counted++) {
            AckBook book = new AckBook();
            Check.sends(book, 0, 1, 4);
            Check.acknowledged(book, 0, 0, 1, 3);
            flow("a loss", book, 6000, 6000, 0);
            book.send(0, 1, true, true);
            book.tick();
            book.send(0, 1, false, counted == 1);
            Check.sends(book, 0, 1, 3);
            Check.acknowledged(book, 0, 0, 6, 8);
            Check.same("sent at RECOVERY, lost", book.state(0, 4), 2);
            Check.same("sent after RECOVERY, lost", book.state(0, 5), 2);
            boolean shrinks = counted == 1;
            flow("the later one counted: " + shrinks, book, shrinks ? 3000 : 6000, shrinks ? 3000 : 6000,
                    shrinks ? 1 : 0);
        }
        AckBook none = new AckBook();
        none.send(0, 1, false, false);
        Check.sends(none, 0, 1, 3);
        Check.acknowledged(none, 0, 0, 1, 3);
        Check.same("lost", none.state(0, 0), 2);
        flow("none of the lost is counted", none, 12000, -1, -1);
        AckBook silent = new AckBook();
        silent.send(0, 1, false, true);
        Check.sends(silent, 0, 1, 3);
        Check.acknowledged(silent, 0, 0, 1, 3);
        flow("counted, not eliciting", silent, 6000, 6000, 0);
    }

    /** 'RECOVERY is now, THRESHOLD is WINDOW / 2, WINDOW is that': an odd WINDOW is cut off. */
    private static void halfOfWindow() {
        AckBook book = new AckBook();
        through(book, 1200, 1200, 1200, 1200, 1200, 1200, 1200, 1200, 1200, 1);
        flow("grown", book, 12001, -1, -1);
        lose(book);
        flow("12001 / 2", book, 6000, 6000, 1);
    }

    /** 'at least 2400'. */
    private static void atLeast2400() {
        AckBook book = collapsed(0);
        through(book, 1200, 1200);
        through(book, 1200, 1200, 1199);
        flow("grown", book, 4799, 6000, -1);
        lose(book);
        flow("4799 / 2", book, 2400, 2399, 89);
        lose(book);
        flow("2400 / 2", book, 2400, 1200, 90);
        book = collapsed(0);
        through(book, 1200, 1200);
        through(book, 1200, 1200, 1200);
        lose(book);
        flow("4800 / 2", book, 2400, 2400, 89);
        book = collapsed(0);
        through(book, 1200, 2);
        through(book, 1200, 1200);
        through(book, 1200, 1200, 1200);
        flow("grown", book, 4802, 6000, -1);
        lose(book);
        flow("4802 / 2", book, 2401, 2401, 89);
    }

    /** 'WINDOW less in flight, at least 0'. */
    private static void noRoom() {
        AckBook book = new AckBook();
        Check.sends(book, 0, 1200, 9);
        book.send(0, 1199, true, true);
        Check.same("1 byte more", book.look(11), 1);
        book.send(0, 1, true, true);
        Check.same("full", book.look(11), 0);
        book.send(0, 1, true, true);
        Check.same("over it", book.look(11), 0);
        Check.same("in flight", book.look(1), 12001);
    }
}
