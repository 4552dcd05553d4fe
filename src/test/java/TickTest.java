/** Promise 5: tick. */
public final class TickTest {
    public static void main(String[] args) {
        time();
        probes();
        latestElicitingOne();
        earliestSpace();
        lossesAheadOfProbes();
        backoffAtMostTen();
        Check.end();
    }

    private static void time() {
        AckBook book = new AckBook();
        Check.quiet(book, 20);
        Check.same("time", book.look(0), 20);
    }

    private static void probes() {
        AckBook book = new AckBook();
        Check.quiet(book, 5);
        book.send(1, 100, true, true);
        Check.same("PROBE TIME", book.space(1, 3), 305);
        Check.quiet(book, 299);
        Check.same("at PROBE TIME", book.tick(), 3);
        Check.same("BACKOFF", book.look(9), 1);
        Check.same("PROBE TIME is twice as far", book.space(1, 3), 605);
        Check.quiet(book, 100);
        Check.same("a probe loses nothing", book.state(1, 0), 0);
        book.discard(0);
        Check.same("BACKOFF 0 again", book.space(1, 3), 305);
        Check.same("long past PROBE TIME", book.tick(), 3);
    }

    private static void latestElicitingOne() {
        AckBook book = new AckBook();
        book.send(0, 100, true, true);
        Check.quiet(book, 4);
        book.send(0, 100, true, true);
        Check.quiet(book, 4);
        book.send(0, 100, false, true);
        Check.same("PROBE TIME", book.space(0, 3), 304);
        AckBook other = new AckBook();
        other.send(0, 100, true, true);
        Check.quiet(other, 8);
        other.send(0, 100, true, true);
        Check.quiet(other, 8);
        Check.acknowledged(other, 0, 0, 1, 1);
        other.send(0, 100, true, true);
        Check.quiet(other, 2);
        other.send(0, 100, true, true);
        Check.acknowledged(other, 0, 0, 3, 3);
        // Sent and acknowledged at 18, with PATIENCE 7 + 20: it is the latest one, though not out.
        Check.same("PATIENCE", other.space(0, 8), 7 + 20);
        Check.same("one is out", other.space(0, 5), 1);
        Check.same("PROBE TIME", other.space(0, 3), 18 + 27);
    }

    private static void earliestSpace() {
        AckBook book = new AckBook();
        book.confirm();
        book.send(2, 100, true, true);
        book.send(1, 100, true, true);
        book.send(0, 100, true, true);
        Check.quiet(book, 299);
        Check.same("space 0 and 1 at once", book.tick(), 2);
        AckBook other = new AckBook();
        other.send(1, 100, true, true);
        Check.quiet(other, 1);
        other.send(0, 100, true, true);
        Check.quiet(other, 298);
        Check.same("space 1 is the earlier one", other.tick(), 3);
        other = new AckBook();
        other.send(0, 100, true, true);
        Check.quiet(other, 1);
        other.send(1, 100, true, true);
        other.send(2, 100, false, false);
        other.send(2, 100, false, false);
        Check.quiet(other, 298);
        Check.same("space 0 is the earlier one", other.tick(), 2);
        Check.quiet(other, 1);
        Check.acknowledged(other, 2, 0, 0, 0);
        Check.same("both are past, space 0 is the earlier one", other.tick(), 2);
        AckBook third = new AckBook();
        third.confirm();
        third.send(2, 100, true, true);
        Check.quiet(third, 324);
        Check.same("space 2", third.tick(), 4);
        AckBook losses = new AckBook();
        Check.sends(losses, 1, 100, 1);
        losses.tick();
        Check.sends(losses, 0, 100, 1);
        Check.sends(losses, 2, 100, 1);
        losses.send(0, 100, false, false);
        losses.send(1, 100, false, false);
        losses.send(2, 100, false, false);
        for (int space = 0; space < 3; space++) {
            Check.acknowledged(losses, space, 0, 1, 1);
        }
        Check.same("LOSS TIME 0", losses.space(0, 2), 113);
        Check.same("LOSS TIME 1", losses.space(1, 2), 112);
        Check.quiet(losses, 110);
        Check.same("the earliest", losses.tick(), 1);
        Check.same("is in space 1", losses.next(1, true), 0);
        Check.same("not in space 0", losses.next(0, true), -1);
        Check.same("then", losses.tick(), 1);
        Check.same("the least of two", losses.next(0, true), 0);
        Check.same("not yet space 2", losses.next(2, true), -1);
        Check.same("then", losses.tick(), 1);
        Check.same("space 2 a tick later", losses.next(2, true), 0);
        Check.quiet(losses, 1);
    }

    private static void lossesAheadOfProbes() {
        AckBook book = new AckBook();
        book.send(1, 100, true, true);
        Check.quiet(book, 187);
        book.send(0, 100, true, true);
        book.send(0, 100, false, false);
        Check.quiet(book, 1);
        Check.acknowledged(book, 0, 0, 1, 1);
        Check.same("LOSS TIME", book.space(0, 2), 299);
        Check.quiet(book, 110);
        Check.same("LOSS TIME comes", book.tick(), 1);
        book = new AckBook();
        book.send(1, 100, true, true);
        Check.quiet(book, 188);
        book.send(0, 100, true, true);
        book.send(0, 100, false, false);
        Check.acknowledged(book, 0, 0, 1, 1);
        Check.quiet(book, 111);
        Check.same("both times are 300", book.space(0, 2) + book.space(1, 3), 600);
        Check.same("losses first", book.tick(), 1);
        Check.same("no probe", book.look(9), 0);
        Check.same("then the probe", book.tick(), 3);
    }

    private static void backoffAtMostTen() {
        AckBook book = new AckBook();
        book.send(0, 100, true, true);
        Check.acknowledged(book, 0, 0, 0, 0);
        book.send(0, 100, true, true);
        int probes = 0;
        for (int time = 1; time <= 1030; time++) {
            boolean isPower = (time & (time - 1)) == 0 || time > 1024;
            probes += isPower ? 1 : 0;
            Check.same("tick to " + time, book.tick(), isPower ? 2 : 0);
            Check.same("BACKOFF at " + time, book.look(9), Math.min(probes, 10));
        }
    }
}
