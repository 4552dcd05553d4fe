/** Promises 4 and 5: LOSSES, and what they and acknowledgements do to WINDOW. */
public final class LossTest {
    public static void main(String[] args) {
        byNumber();
        byTime();
        limitOfTheLook();
        filling();
        slowGrowth();
        recovery();
        leastWindow();
        notCounted();
        collapse();
        Check.end();
    }

    private static void byNumber() {
        AckBook book = new AckBook();
        Check.sends(book, 1, 100, 5);
        Check.acknowledged(book, 1, 0, 3, 3);
        Check.same("3 below is lost", book.state(1, 0), 2);
        Check.same("2 below is out", book.state(1, 1), 0);
        Check.same("1 below is out", book.state(1, 2), 0);
        Check.same("above is out", book.state(1, 4), 0);
        Check.same("LOSS TIME", book.space(1, 2), 1);
        Check.same("in flight", book.look(1), 300);
    }

    private static void byTime() {
        AckBook book = new AckBook();
        book.send(0, 100, true, true);
        Check.quiet(book, 3);
        book.send(0, 100, true, true);
        Check.quiet(book, 5);
        book.send(0, 100, true, true);
        Check.quiet(book, 2);
        // LIMIT is that of SMOOTH / 8 and LATEST, both 2, cut off.
        Check.acknowledged(book, 0, 0, 2, 2);
        Check.same("LIMIT", book.look(10), 2);
        Check.same("both were sent too long ago", book.next(0, true), 0);
        Check.same("both were sent too long ago", book.next(0, true), 1);

        AckBook other = new AckBook();
        other.send(0, 100, true, true);
        Check.quiet(other, 1);
        other.send(0, 100, true, true);
        other.send(0, 100, true, true);
        Check.quiet(other, 8);
        Check.acknowledged(other, 0, 0, 2, 2);
        Check.same("LIMIT", other.look(10), 9);
        Check.same("sent LIMIT ago", other.state(0, 0), 2);
        Check.same("sent later", other.state(0, 1), 0);
        Check.same("LOSS TIME", other.space(0, 2), 10);
        Check.same("tick", other.tick(), 1);
        Check.same("lost by the tick", other.state(0, 1), 2);
        Check.same("LOSS TIME after it", other.space(0, 2), -1);
        Check.same("BACKOFF", other.look(9), 0);
        Check.quiet(other, 300);

        AckBook third = new AckBook();
        Check.sends(third, 0, 100, 2);
        Check.quiet(third, 3);
        Check.acknowledged(third, 0, 0, 0, 0);
        Check.same("LIMIT", third.look(10), 3);
        Check.same("above GREATEST ACKNOWLEDGED nothing is lost", third.state(0, 1), 0);
        Check.same("nor does it give LOSS TIME", third.space(0, 2), -1);
    }

    private static void limitOfTheLook() {
        AckBook book = new AckBook();
        book.send(0, 100, true, true);
        book.send(1, 100, true, true);
        Check.quiet(book, 8);
        Check.acknowledged(book, 0, 0, 0, 0);
        book.send(0, 100, true, true);
        book.send(0, 100, false, false);
        Check.acknowledged(book, 0, 0, 2, 2);
        Check.same("LIMIT", book.look(10), 9);
        Check.same("LOSS TIME", book.space(0, 2), 17);
        Check.quiet(book, 8);
        Check.acknowledged(book, 1, 0, 0, 0);
        Check.same("LIMIT grew with another space", book.look(10), 18);
        Check.same("LOSS TIME stays until the next look", book.space(0, 2), 17);
        Check.same("tick", book.tick(), 1);
        Check.same("not lost by the new LIMIT", book.state(0, 1), 0);
        Check.same("LOSS TIME of the new LIMIT", book.space(0, 2), 26);
    }

    private static void filling() {
        AckBook book = new AckBook();
        Check.sends(book, 2, 1200, 9);
        book.send(2, 1, true, true);
        book.send(2, 50, false, false);
        book.send(2, 70, false, true);
        Check.acknowledged(book, 2, 0, 8, 8);
        Check.same("10800 does not fill", book.look(2), 6000);
        AckBook other = new AckBook();
        Check.sends(other, 2, 1200, 9);
        other.send(2, 1, true, true);
        other.send(2, 50, false, false);
        other.send(2, 70, false, true);
        Check.acknowledged(other, 2, 0, 0, 8);
        Check.same("none of them fills", other.look(2), 12000);
        Check.acknowledged(other, 2, 0, 9, 9);
        Check.same("10801 fills", other.look(2), 12001);
        Check.acknowledged(other, 2, 0, 10, 10);
        Check.same("one not counted", other.look(2), 12001);
        Check.acknowledged(other, 2, 0, 11, 11);
        Check.same("one not eliciting", other.look(2), 12071);
    }

    private static void slowGrowth() {
        AckBook book = lossOfNine();
        Check.same("WINDOW", book.look(2), 6600);
        Check.same("THRESHOLD", book.look(3), 6600);
        Check.same("RECOVERY", book.look(4), 1);
        Check.same("in flight", book.look(1), 0);
        book.tick();
        Check.sends(book, 0, 1200, 6);
        Check.acknowledged(book, 0, 0, 10, 15);
        // 14 and 15 fill: 1440000 / 6600 = 218, 1440000 / 6818 = 211.
        Check.same("WINDOW", book.look(2), 7029);
        Check.same("THRESHOLD", book.look(3), 6600);
    }

    /** Ten packets at 0, of which the last alone, which fills, is acknowledged at 1. */
    private static AckBook lossOfNine() {
        AckBook book = new AckBook();
        Check.sends(book, 0, 1200, 10);
        book.tick();
        Check.acknowledged(book, 0, 0, 9, 9);
        return book;
    }

    private static void recovery() {
        AckBook book = lossOfNine();
        Check.sends(book, 0, 1200, 6);
        Check.acknowledged(book, 0, 0, 10, 15);
        Check.same("sent at RECOVERY: no growth", book.look(2), 6600);
        Check.sends(book, 0, 1200, 4);
        Check.acknowledged(book, 0, 0, 19, 19);
        Check.same("lost", book.state(0, 16), 2);
        Check.same("sent at RECOVERY: no loss of WINDOW", book.look(2), 6600);
        Check.same("RECOVERY", book.look(4), 1);
        book.tick();
        Check.sends(book, 0, 1200, 4);
        book.tick();
        Check.acknowledged(book, 0, 0, 23, 23);
        Check.same("sent after RECOVERY", book.look(2), 3300);
        Check.same("THRESHOLD", book.look(3), 3300);
        Check.same("RECOVERY", book.look(4), 3);
    }

    private static void leastWindow() {
        AckBook book = new AckBook();
        int[] windows = {6000, 3000, 2400, 2400};
        int[] thresholds = {6000, 3000, 1500, 1200};
        for (int k = 0; k < 4; k++) {
            book.tick();
            Check.sends(book, 0, 1, 4);
            Check.acknowledged(book, 0, 0, 4 * k + 3, 4 * k + 3);
            Check.same("WINDOW", book.look(2), windows[k]);
            Check.same("THRESHOLD", book.look(3), thresholds[k]);
            Check.acknowledged(book, 0, 0, 4 * k + 1, 4 * k + 2);
        }
        book.tick();
        Check.sends(book, 0, 1200, 2);
        Check.acknowledged(book, 0, 0, 16, 17);
        // With 1200 in flight a window of 2400 is not filled: only the second one fills.
        Check.same("above THRESHOLD", book.look(2), 2400 + 600);
    }

    private static void notCounted() {
        AckBook book = new AckBook();
        book.send(0, 100, false, false);
        Check.sends(book, 0, 100, 3);
        Check.acknowledged(book, 0, 0, 1, 3);
        Check.same("lost", book.next(0, true), 0);
        Check.looks("one not counted is lost without harm", book, 0, 0, 12000, -1, -1);
    }

    private static void collapse() {
        // After a sample of 1 PATIENCE of space 2, confirmed, is 28: more than 84 ticks are too many.
        silence(true, 2, 85, -1, 2400, -1);
        silence(true, 2, 84, -1, 6000, 87);
        silence(false, 2, 85, -1, 2400, -1);
        silence(true, 1, 86, -1, 6000, 88);
        silence(true, 2, 85, 2, 6000, 88);
        silence(true, 2, 85, 3, 6000, 88);
    }

    /**
     * A sample at 1; 1 is sent at a time, 2 (not eliciting) and 3 behind it, and 4 .. 7 after a
     * silence; 7 and maybe one more are acknowledged a tick later.
     */
    private static void silence(boolean confirmed, int from, int ticks, int through, int window, int recovery) {
        AckBook book = new AckBook();
        if (confirmed) {
            book.confirm();
        }
        book.send(2, 100, true, true);
        book.tick();
        Check.acknowledged(book, 2, 0, 0, 0);
        Check.ticks(book, from - 1);
        book.send(2, 100, true, true);
        book.send(2, 100, false, false);
        Check.ticks(book, ticks);
        if (from == 1) {
            // Nothing eliciting but the one sent at the time of the first sample is old enough.
            book.send(2, 100, false, true);
        } else {
            book.send(2, 100, true, true);
        }
        Check.sends(book, 2, 100, 4);
        book.tick();
        if (through < 0) {
            Check.acknowledged(book, 2, 0, 7, 7);
        } else {
            Check.acknowledged(book, 2, 0, 7, 7, through, through);
        }
        String where = "confirmed " + confirmed + ", from " + from + ", " + ticks + " ticks, through " + through;
        Check.same(where + ": WINDOW", book.look(2), window);
        Check.same(where + ": RECOVERY", book.look(4), recovery);
        Check.same(where + ": THRESHOLD", book.look(3), 6000);
        Check.same(where + ": in flight", book.look(1), 0);
    }
}
