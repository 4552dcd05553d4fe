/** The edges of LOSSES and of a long silence, each with the words of the document that it is about. */
public final class LossEdgesTest {
    public static void main(String[] args) {
        belowGreatestAcknowledged();
        atMostThatLess3();
        limitTicksAgo();
        earliestOfTheirTimes();
        noneIfThereIsNone();
        whenNothingIsLost();
        moreThanThreeTimesPatience();
        asOfSpace2Confirmed();
        amongThem();
        firstAndLastElicitingOne();
        afterTheTimeOfTheFirstSample();
        noneBetweenThemInTheSpace();
        alsoWithoutALossOfWindow();
        onlyIfThereWasASample();
        Check.end();
    }

    /** 'of those out below GREATEST ACKNOWLEDGED'. */
    private static void belowGreatestAcknowledged() {
        AckBook book = new AckBook();
        Check.sends(book, 0, 1, 3);
        Check.ticks(book, 2);
        Check.acknowledged(book, 0, 0, 1, 1);
        Check.same("LIMIT", book.look(10), 2);
        Check.same("below", book.state(0, 0), 2);
        Check.same("above", book.state(0, 2), 0);
        Check.same("above gives no LOSS TIME", book.space(0, 2), -1);
        book = new AckBook();
        Check.sends(book, 0, 1, 3);
        Check.ticks(book, 2);
        Check.acknowledged(book, 0, 0, 0, 0);
        Check.same("nothing is below 0", book.next(0, true), -1);
        Check.same("nothing is below 0", book.space(0, 2), -1);
    }

    /** 'lost, if its number is at most that - 3'. */
    private static void atMostThatLess3() {
        for (int greatest = 1; greatest < 8; greatest++) {
            AckBook book = new AckBook();
            Check.sends(book, 0, 1, 9);
            Check.acknowledged(book, 0, 0, greatest, greatest);
            for (int number = 0; number < 9; number++) {
                int want = number == greatest ? 1 : number <= greatest - 3 ? 2 : 0;
                Check.same("greatest " + greatest + ", state of " + number, book.state(0, number), want);
            }
        }
    }

    /** 'or it was sent LIMIT ticks ago or earlier'. */
    private static void limitTicksAgo() {
        int[] wants = {2, 2, 0};
        for (int sent = 0; sent < wants.length; sent++) {
            AckBook book = new AckBook();
            Check.ticks(book, sent);
            book.send(0, 1, true, true);
            Check.ticks(book, 2 - sent);
            book.send(0, 1, true, true);
            Check.ticks(book, 8);
            Check.acknowledged(book, 0, 0, 1, 1);
            Check.same("LIMIT", book.look(10), 9);
            Check.same("sent " + (10 - sent) + " ticks ago", book.state(0, 0), wants[sent]);
            Check.same("LOSS TIME", book.space(0, 2), wants[sent] == 0 ? sent + 9 : -1);
        }
    }

    /** 'the others give LOSS TIME: the earliest of their times + LIMIT'. */
    private static void earliestOfTheirTimes() {
        AckBook book = new AckBook();
        book.send(0, 1, true, true);
        Check.ticks(book, 8);
        Check.acknowledged(book, 0, 0, 0, 0);
        book.send(0, 1, true, true);
        book.tick();
        book.send(0, 1, false, false);
        book.send(0, 1, false, false);
        Check.acknowledged(book, 0, 0, 3, 3);
        Check.same("of the earlier one", book.space(0, 2), 8 + 9);
        // The eliciting one is probed for on the way, so the ticks there are not all quiet.
        Check.ticks(book, 7);
        Check.same("not yet", book.state(0, 1), 0);
        Check.same("at LOSS TIME", book.tick(), 1);
        Check.same("lost", book.state(0, 1), 2);
        Check.same("not the later one", book.state(0, 2), 0);
        Check.same("of the later one", book.space(0, 2), 9 + 9);
        Check.same("at LOSS TIME", book.tick(), 1);
        Check.same("lost, though it is not eliciting", book.state(0, 2), 2);
    }

    /** '(none, if there is none)'. */
    private static void noneIfThereIsNone() {
        AckBook book = new AckBook();
        Check.sends(book, 0, 1, 3);
        Check.acknowledged(book, 0, 0, 2, 2);
        Check.same("two are left", book.space(0, 2), 1);
        Check.acknowledged(book, 0, 0, 1, 1);
        Check.same("one is left", book.space(0, 2), 1);
        Check.acknowledged(book, 0, 0, 0, 0);
        Check.same("none is left", book.space(0, 2), -1);
        Check.same("no look", book.tick(), 0);
    }

    /** 'If some were lost': a look that finds none changes neither WINDOW nor RECOVERY. */
    private static void whenNothingIsLost() {
        AckBook book = new AckBook();
        Check.sends(book, 0, 1, 3);
        Check.acknowledged(book, 0, 0, 2, 2);
        Check.looks("none is lost", book, 0, 2, 12000, -1, -1);
        book = new AckBook();
        book.send(0, 1, true, true);
        book.send(1, 1, true, true);
        Check.ticks(book, 8);
        Check.acknowledged(book, 0, 0, 0, 0);
        Check.sends(book, 0, 1, 1);
        book.send(0, 1, false, false);
        Check.acknowledged(book, 0, 0, 2, 2);
        Check.same("LOSS TIME", book.space(0, 2), 17);
        Check.ticks(book, 8);
        Check.acknowledged(book, 1, 0, 0, 0);
        Check.same("a look that finds none", book.tick(), 1);
        Check.same("none", book.next(0, true), -1);
        Check.looks("none is lost by the tick", book, 17, 1, 12000, -1, -1);
    }

    /**
     * A sample of 1 at 1, which makes PATIENCE of space 2, confirmed, 28. From 2 on packets of a space:
     * one of a kind at each time told, then three more with the last, which come a tick later: all of
     * the kinds but the last three are found lost at once.
     */
    private static AckBook silence(int space, String kinds, int... times) {
        AckBook book = new AckBook();
        book.send(space, 1, true, true);
        book.tick();
        Check.acknowledged(book, space, 0, 0, 0);
        for (int k = 0; k < times.length; k++) {
            Check.ticks(book, times[k] - book.look(0));
            boolean eliciting = kinds.charAt(k) == 'e';
            book.send(space, 1, eliciting, eliciting || kinds.charAt(k) == 'c');
        }
        Check.sends(book, space, 1, 3);
        return book;
    }

    private static void end(String where, AckBook book, int space, boolean collapses) {
        book.tick();
        int last = (int) book.space(space, 0) - 1;
        Check.acknowledged(book, space, 0, last - 2, last);
        told(where, book, collapses ? 2400 : 6000, 6000, collapses ? -1 : book.look(0));
    }

    private static void told(String where, AckBook book, int window, int threshold, int recovery) {
        Check.same(where + ": WINDOW", book.look(2), window);
        Check.same(where + ": THRESHOLD", book.look(3), threshold);
        Check.same(where + ": RECOVERY", book.look(4), recovery);
    }

    /** 'if L was sent more than 3 * PATIENCE .. ticks after F'. */
    private static void moreThanThreeTimesPatience() {
        for (int space = 0; space < 3; space++) {
            end("83 ticks in space " + space, silence(space, "ee", 2, 85), space, false);
            end("84 ticks in space " + space, silence(space, "ee", 2, 86), space, false);
            end("85 ticks in space " + space, silence(space, "ee", 2, 87), space, true);
        }
        end("F is L", silence(2, "e", 87), 2, false);
    }

    /** 'PATIENCE (as of space 2, confirmed)': whether it is confirmed or not. */
    private static void asOfSpace2Confirmed() {
        for (int space = 0; space < 3; space++) {
            AckBook book = silence(space, "ee", 2, 86);
            book.confirm();
            end("84 ticks, confirmed, in space " + space, book, space, false);
            book = silence(space, "ee", 2, 87);
            book.confirm();
            end("85 ticks, confirmed, in space " + space, book, space, true);
        }
    }

    /** 'among them': those that were found lost before are not looked at. */
    private static void amongThem() {
        AckBook book = silence(2, "ee", 2, 87);
        // 1 is lost by its number; 2 and 3, which are as late as it can be, only a tick later.
        Check.acknowledged(book, 2, 0, 4, 4);
        told("the first one alone", book, 6000, 6000, 87);
        Check.same("lost", book.next(2, true), 1);
        Check.same("the others", book.tick(), 1);
        Check.same("lost", book.next(2, true), 2);
        Check.same("lost", book.next(2, true), 3);
        told("the others alone", book, 6000, 6000, 87);
    }

    /** 'F and L the first and the last eliciting one'. */
    private static void firstAndLastElicitingOne() {
        end("the first is not eliciting", silence(2, "cee", 2, 3, 87), 2, false);
        end("the first is not counted", silence(2, "nee", 2, 3, 87), 2, false);
        end("the last is not eliciting", silence(2, "eec", 2, 86, 87), 2, false);
        end("the last is not counted", silence(2, "een", 2, 86, 87), 2, false);
        end("others before, between and behind", silence(2, "nencen", 2, 2, 3, 50, 87, 87), 2, true);
        AckBook none = silence(2, "ncn", 2, 50, 87);
        end("no eliciting one", none, 2, false);
    }

    /** 'that were sent after the time of the first sample'. */
    private static void afterTheTimeOfTheFirstSample() {
        end("sent at that time", silence(2, "ee", 1, 87), 2, false);
        end("sent at that time, another one a tick later", silence(2, "eee", 1, 2, 87), 2, true);
        end("sent at that time, another one later", silence(2, "eee", 1, 3, 87), 2, false);
        AckBook book = silence(2, "e", 2);
        // Those of the helper at 2 are F too; a second sample of 1 in space 0 changes no time of the first.
        Check.ticks(book, 48);
        book.send(0, 1, true, true);
        book.tick();
        Check.acknowledged(book, 0, 0, 0, 0);
        Check.same("PATIENCE stays", book.space(0, 8), 3);
        Check.ticks(book, 36);
        Check.sends(book, 2, 1, 4);
        end("a later sample", book, 2, true);
    }

    /** 'and none between them in the space was acknowledged'. */
    private static void noneBetweenThemInTheSpace() {
        for (int between = 2; between <= 4; between++) {
            AckBook book = silence(2, "encee", 2, 3, 50, 60, 87);
            book.tick();
            // 1 is F, 5 is L; 6 .. 8 come.
            Check.acknowledged(book, 2, 0, 6, 8, between, between);
            told("acknowledged " + between, book, 6000, 6000, 88);
        }
        AckBook ends = silence(2, "eneen", 2, 2, 2, 87, 87);
        ends.tick();
        // 1 comes, so 3 is F, and 2 lies before it; 4 is L, and 5 lies behind it.
        Check.acknowledged(ends, 2, 0, 5, 8, 1, 2);
        told("acknowledged before F and behind L", ends, 2400, 6000, -1);
    }

    /** 'Then': also when the lost ones were all sent before RECOVERY. */
    private static void alsoWithoutALossOfWindow() {
        for (int ticks = 90; ticks <= 91; ticks++) {
            AckBook book = silence(2, "ee", 2, 2 + ticks);
            Check.sends(book, 0, 1, 4);
            Check.acknowledged(book, 0, 0, 1, 3);
            told("a loss in another space", book, 6000, 6000, 2 + ticks);
            book.tick();
            Check.acknowledged(book, 2, 0, 3, 5);
            // The samples 0 and 1 leave SMOOTH at 8 and bring VARY to 4.
            Check.same("PATIENCE", book.space(0, 8), 5);
            boolean collapses = ticks > 3 * 30;
            told(ticks + " ticks", book, collapses ? 2400 : 6000, 6000, collapses ? -1 : 2 + ticks);
        }
    }

    /** 'if there was a sample before'; without one it takes more than 975 ticks, and so more than 512 calls. */
    private static void onlyIfThereWasASample() {
        AckBook book = new AckBook();
        book.send(2, 1, true, true);
        Check.ticks(book, 1000);
        book.send(2, 1, true, true);
        for (int k = 0; k < 3; k++) {
            book.send(2, 1, false, false);
        }
        Check.acknowledged(book, 2, 0, 2, 4);
        Check.same("no sample", book.look(8), -1);
        Check.same("lost", book.next(2, true), 0);
        Check.same("lost", book.next(2, true), 1);
        told("no sample", book, 6000, 6000, 1000);
    }
}
