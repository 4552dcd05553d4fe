import java.util.ArrayList;
import java.util.NoSuchElementException;

/**
 * A book about packets that were sent and that came, for one side of a line that loses, doubles
 * and reorders them. The words in capitals in the comments are those of the document.
 */
public final class AckBook {
    private static final int NONE = -1;

    private static final int SPACES = 3;
    /** The only space whose acknowledgements may wait, and that has to be confirmed. */
    private static final int PATIENT_SPACE = 2;
    private static final int LONGEST_WAIT = 25;

    private static final int MOST_PACKETS = 4096;
    private static final int MOST_SIZE = 1200;
    private static final int MOST_RANGES = 64;
    private static final int MOST_DELAY = 100000;
    private static final int MOST_BACKOFF = 10;
    private static final long MOST_NUMBER = 4611686018427387903L;

    private static final int FIRST_WINDOW = 12000;
    private static final int LEAST_WINDOW = 2400;
    private static final int REORDERING = 3;

    private static final int OUT = 0;
    private static final int ACKNOWLEDGED = 1;
    private static final int LOST = 2;
    private static final int DISCARDED = 3;

    private final Space[] spaces;
    private final Claim claim;
    private final Way way;
    private final Flow flow;
    private int time;
    private int backoff;
    private int latestSending;
    private boolean isConfirmed;
    private boolean isAnxious;

    public AckBook() {
        spaces = new Space[SPACES];
        for (int k = 0; k < SPACES; k++) {
            spaces[k] = new Space(k);
        }
        claim = new Claim();
        way = new Way();
        flow = new Flow();
    }

    public int send(int space, int size, boolean eliciting, boolean counted)
            throws IllegalArgumentException, IllegalStateException {
        Space its = known(space);
        if (size < 1 || size > MOST_SIZE) {
            throw new IllegalArgumentException("size is not 1 .. 1200");
        }
        if (eliciting && !counted) {
            throw new IllegalArgumentException("eliciting and not counted");
        }
        refuseDiscarded(its);
        if (its.sent.count() >= MOST_PACKETS) {
            throw new IllegalStateException("the space has 4096 packets");
        }
        Packet packet = new Packet(its.sent.count(), size, time, eliciting, counted);
        its.sent.enter(packet);
        flow.enter(packet);
        latestSending = time;
        return packet.number;
    }

    public int span(long low, long high) throws IllegalArgumentException, IllegalStateException {
        if (low < 0 || high < low) {
            throw new IllegalArgumentException("not 0 <= low <= high");
        }
        if (!claim.isBelow(high)) {
            throw new IllegalArgumentException("not below the last range with a number between");
        }
        if (claim.isFull()) {
            throw new IllegalStateException("the acknowledgement has 64 ranges");
        }
        return claim.add(low, high);
    }

    public int acknowledge(int space, int delay) throws IllegalArgumentException, IllegalStateException {
        // Closed ahead of every test, because none is put together after a throw either.
        claim.close();
        Space its = known(space);
        refuseDiscarded(its);
        if (delay < 0 || delay > MOST_DELAY) {
            throw new IllegalArgumentException("delay is not 0 .. 100000");
        }
        // Without a range the greatest is none, and no packet has that number.
        Packet greatest = its.sent.packet(claim.greatest());
        if (greatest == null) {
            throw new IllegalArgumentException("no range, or its greatest is not yet sent");
        }
        return settle(its, greatest, delay);
    }

    public int tick() {
        time++;
        Space late = earliest(false);
        if (late != null) {
            lookForLosses(late.sent);
            return 1;
        }
        Space silent = earliest(true);
        if (silent != null) {
            backoff = Math.min(backoff + 1, MOST_BACKOFF);
            return 2 + silent.index;
        }
        return 0;
    }

    public void discard(int space) throws IllegalArgumentException, IllegalStateException {
        Space its = known(space);
        refuseDiscarded(its);
        its.isDiscarded = true;
        its.sent.forget(flow);
        its.arrivals.forget();
        backoff = 0;
    }

    public void confirm() {
        isConfirmed = true;
    }

    public void anxious(boolean is) {
        isAnxious = is;
    }

    public int next(int space, boolean lost) throws IllegalArgumentException {
        Sent sent = known(space).sent;
        return lost ? sent.lost.removeFirst() : sent.acknowledged.removeFirst();
    }

    public int state(int space, int number) throws IllegalArgumentException {
        Space its = known(space);
        Packet packet = its.sent.packet(number);
        if (packet == null) {
            return NONE;
        }
        return its.isDiscarded ? DISCARDED : packet.fate;
    }

    public boolean came(int space, long number, boolean eliciting)
            throws IllegalArgumentException, IllegalStateException {
        Space its = known(space);
        if (number < 0 || number > MOST_NUMBER) {
            throw new IllegalArgumentException("no such number");
        }
        refuseDiscarded(its);
        return its.arrivals.enter(number, eliciting, time);
    }

    public boolean due(int space) throws IllegalArgumentException {
        Space its = known(space);
        return its.index == PATIENT_SPACE ? its.arrivals.isPressing(time) : its.arrivals.pending > 0;
    }

    public int written(int space) throws IllegalArgumentException, IllegalStateException {
        Space its = known(space);
        refuseDiscarded(its);
        if (its.arrivals.count == 0) {
            throw new IllegalStateException("nothing came");
        }
        return its.arrivals.settle(time);
    }

    public long range(int space, int k, boolean greatest)
            throws IllegalArgumentException, NoSuchElementException {
        Arrivals arrivals = known(space).arrivals;
        if (k < 0 || k >= arrivals.count) {
            throw new NoSuchElementException("no such range");
        }
        return greatest ? arrivals.highs[k] : arrivals.lows[k];
    }

    public int look(int what) throws NoSuchElementException {
        switch (what) {
            case 0: return time;
            case 1: return flow.inFlight;
            case 2: return flow.window;
            case 3: return flow.threshold;
            case 4: return flow.recovery;
            case 5: return way.smooth;
            case 6: return way.vary;
            case 7: return way.latest;
            case 8: return way.least;
            case 9: return backoff;
            case 10: return way.limit();
            case 11: return Math.max(flow.window - flow.inFlight, 0);
            default: throw new NoSuchElementException("nothing to look at");
        }
    }

    public long space(int space, int what) throws IllegalArgumentException, NoSuchElementException {
        Space its = known(space);
        switch (what) {
            case 0: return its.sent.count();
            case 1: return its.sent.greatestAcknowledged;
            case 2: return its.sent.lossTime;
            case 3: return probeTime(its);
            case 4: return its.sent.out;
            case 5: return its.sent.elicitingOut;
            case 6: return its.arrivals.count;
            case 7: return its.arrivals.pending;
            case 8: return patience(its);
            case 9: return its.isDiscarded ? 1 : 0;
            case 10: return its.arrivals.floor;
            default: throw new NoSuchElementException("nothing to look at");
        }
    }

    private Space known(int space) {
        if (space < 0 || space >= spaces.length) {
            throw new IllegalArgumentException("no such space");
        }
        return spaces[space];
    }

    private static void refuseDiscarded(Space its) {
        if (its.isDiscarded) {
            throw new IllegalStateException("the space is discarded");
        }
    }

    /** What a right acknowledgement changes; how many are NEW. */
    private int settle(Space its, Packet greatest, int delay) {
        boolean isGreatestNew = greatest.fate == OUT;
        its.sent.raiseGreatest(greatest.number);
        Packet firstNew = its.sent.markAcknowledged(claim);
        if (firstNew == null) {
            return 0;
        }
        if (isGreatestNew && hasEliciting(firstNew)) {
            int counts = its.index == PATIENT_SPACE ? Math.min(delay, LONGEST_WAIT) : 0;
            way.take(time - greatest.sentAt, counts, time);
        }
        int news = flow.leaveAcknowledged(firstNew);
        lookForLosses(its.sent);
        backoff = 0;
        return news;
    }

    private static boolean hasEliciting(Packet first) {
        for (Packet packet = first; packet != null; packet = packet.follower) {
            if (packet.isEliciting) {
                return true;
            }
        }
        return false;
    }

    private void lookForLosses(Sent sent) {
        Packet firstLost = sent.markLost(time, way.limit());
        if (firstLost == null) {
            return;
        }
        flow.leaveLost(firstLost, time);
        if (way.firstSampleAt != NONE
                && sent.wasCutOff(firstLost, way.firstSampleAt, 3 * (way.patience() + LONGEST_WAIT))) {
            flow.collapse();
        }
    }

    /** The space whose LOSS TIME or PROBE TIME has come, the earliest one first; null without one. */
    private Space earliest(boolean probing) {
        Space found = null;
        int foundTime = time;
        for (int k = 0; k < spaces.length; k++) {
            Space its = spaces[k];
            int itsTime = probing ? probeTime(its) : its.sent.lossTime;
            boolean hasCome = itsTime != NONE && itsTime <= time;
            if (hasCome && (found == null || itsTime < foundTime)) {
                found = its;
                foundTime = itsTime;
            }
        }
        return found;
    }

    private int patience(Space its) {
        boolean mayWait = its.index == PATIENT_SPACE && isConfirmed;
        return way.patience() + (mayWait ? LONGEST_WAIT : 0);
    }

    private int probeTime(Space its) {
        if (its.isDiscarded || (its.index == PATIENT_SPACE && !isConfirmed)) {
            return NONE;
        }
        int wait = patience(its) << backoff;
        if (its.sent.elicitingOut > 0) {
            return its.sent.latestEliciting + wait;
        }
        return probesWithoutCause(its) ? latestSending + wait : NONE;
    }

    /** Whether it is the first space kept, of an anxious book with no eliciting packet out. */
    private boolean probesWithoutCause(Space its) {
        if (!isAnxious) {
            return false;
        }
        boolean isFirst = true;
        for (int k = 0; k < spaces.length; k++) {
            if (spaces[k].sent.elicitingOut > 0) {
                return false;
            }
            if (k < its.index && !spaces[k].isDiscarded) {
                isFirst = false;
            }
        }
        return isFirst;
    }

    private static final class Space {
        final int index;
        final Sent sent;
        final Arrivals arrivals;
        boolean isDiscarded;

        Space(int index) {
            this.index = index;
            sent = new Sent();
            arrivals = new Arrivals();
        }
    }

    private static final class Packet {
        final int number;
        final int size;
        final int sentAt;
        final boolean isEliciting;
        final boolean isCounted;
        boolean isFilling;
        int fate;
        Packet follower;

        Packet(int number, int size, int sentAt, boolean isEliciting, boolean isCounted) {
            this.number = number;
            this.size = size;
            this.sentAt = sentAt;
            this.isEliciting = isEliciting;
            this.isCounted = isCounted;
            fate = OUT;
        }
    }

    /**
     * Packets in the order in which their fate was found. Each packet has one fate for good, so it
     * stands in one chain at most, and those of one finding are all that follow its first one.
     */
    private static final class Chain {
        private Packet first;
        private Packet last;

        void append(Packet packet) {
            if (first == null || last == null) {
                first = packet;
            } else {
                last.follower = packet;
            }
            last = packet;
        }

        int removeFirst() {
            if (first == null) {
                return NONE;
            }
            int number = first.number;
            first = first.follower;
            return number;
        }

        void clear() {
            first = null;
        }
    }

    /** The packets that were sent in one space. */
    private static final class Sent {
        final Chain acknowledged;
        final Chain lost;
        private final ArrayList<Packet> packets;
        int out;
        int elicitingOut;
        int latestEliciting;
        int greatestAcknowledged;
        int lossTime;

        Sent() {
            acknowledged = new Chain();
            lost = new Chain();
            packets = new ArrayList<>();
            greatestAcknowledged = NONE;
            lossTime = NONE;
        }

        int count() {
            return packets.size();
        }

        /** The packet of a number; null when it was not sent. */
        Packet packet(long number) {
            if (number < 0 || number >= packets.size()) {
                return null;
            }
            return packets.get((int) number);
        }

        void enter(Packet packet) {
            packets.add(packet);
            out++;
            if (packet.isEliciting) {
                elicitingOut++;
                latestEliciting = packet.sentAt;
            }
        }

        void raiseGreatest(int number) {
            greatestAcknowledged = Math.max(greatestAcknowledged, number);
        }

        /** The first one that is NEW, with the others behind it in its chain; null without one. */
        Packet markAcknowledged(Claim claim) {
            Packet firstNew = null;
            for (int k = claim.closed - 1; k >= 0; k--) {
                long high = Math.min(claim.high(k), packets.size() - 1);
                for (long number = claim.low(k); number <= high; number++) {
                    Packet packet = packet(number);
                    if (packet != null && packet.fate == OUT) {
                        end(packet, ACKNOWLEDGED, acknowledged);
                        firstNew = firstNew == null ? packet : firstNew;
                    }
                }
            }
            return firstNew;
        }

        /** The first one found lost, with the others behind it in its chain; null without one. */
        Packet markLost(int now, int limit) {
            Packet firstLost = null;
            lossTime = NONE;
            for (int k = 0; k < packets.size() && k < greatestAcknowledged; k++) {
                Packet packet = packets.get(k);
                if (packet.fate != OUT) {
                    continue;
                }
                if (k <= greatestAcknowledged - REORDERING || packet.sentAt <= now - limit) {
                    end(packet, LOST, lost);
                    firstLost = firstLost == null ? packet : firstLost;
                } else if (lossTime == NONE) {
                    // Later numbers were never sent earlier, so the first one left is the earliest.
                    lossTime = packet.sentAt + limit;
                }
            }
            return firstLost;
        }

        private void end(Packet packet, int fate, Chain chain) {
            packet.fate = fate;
            chain.append(packet);
            out--;
            if (packet.isEliciting) {
                elicitingOut--;
            }
        }

        /** Whether nothing came through for longer than a bound, by the packets just found lost. */
        boolean wasCutOff(Packet firstLost, int since, int bound) {
            Packet first = null;
            Packet last = null;
            for (Packet packet = firstLost; packet != null; packet = packet.follower) {
                if (packet.isEliciting && packet.sentAt > since) {
                    first = first == null ? packet : first;
                    last = packet;
                }
            }
            if (first == null || last == null) {
                return false;
            }
            return last.sentAt - first.sentAt > bound && !hasAcknowledged(first.number, last.number);
        }

        private boolean hasAcknowledged(int above, int below) {
            for (int k = above + 1; k < below && k < packets.size(); k++) {
                if (packets.get(k).fate == ACKNOWLEDGED) {
                    return true;
                }
            }
            return false;
        }

        void forget(Flow flow) {
            for (int k = 0; k < packets.size(); k++) {
                Packet packet = packets.get(k);
                if (packet.fate == OUT) {
                    flow.leave(packet);
                }
            }
            out = 0;
            elicitingOut = 0;
            greatestAcknowledged = NONE;
            lossTime = NONE;
            acknowledged.clear();
            lost.clear();
        }
    }

    /** The acknowledgement that is put together; closed, its ranges stay until the next is begun. */
    private static final class Claim {
        private final long[] lows;
        private final long[] highs;
        private int open;
        int closed;

        Claim() {
            lows = new long[MOST_RANGES];
            highs = new long[MOST_RANGES];
        }

        boolean isFull() {
            return open >= MOST_RANGES;
        }

        boolean isBelow(long high) {
            if (open <= 0 || open > MOST_RANGES) {
                return true;
            }
            return high < lows[open - 1] - 1;
        }

        int add(long low, long high) {
            if (open >= 0 && open < MOST_RANGES) {
                lows[open] = low;
                highs[open] = high;
                open++;
            }
            return open;
        }

        void close() {
            closed = open;
            open = 0;
        }

        long greatest() {
            return closed == 0 ? NONE : highs[0];
        }

        long low(int k) {
            return k >= 0 && k < MOST_RANGES ? lows[k] : NONE;
        }

        long high(int k) {
            return k >= 0 && k < MOST_RANGES ? highs[k] : NONE;
        }
    }

    /** How long the way takes. */
    private static final class Way {
        int smooth;
        int vary;
        int latest;
        int least;
        int firstSampleAt;

        Way() {
            smooth = 800;
            vary = 200;
            least = NONE;
            firstSampleAt = NONE;
        }

        void take(int sample, int delay, int now) {
            latest = sample;
            least = least == NONE ? sample : Math.min(least, sample);
            if (firstSampleAt == NONE) {
                firstSampleAt = now;
                smooth = 8 * sample;
                vary = 2 * sample;
                return;
            }
            int counts = sample >= least + delay ? sample - delay : sample;
            int difference = Math.abs(smooth / 8 - counts);
            vary += difference - vary / 4;
            smooth += counts - smooth / 8;
        }

        /** PATIENCE without the wait that is allowed in one space. */
        int patience() {
            return smooth / 8 + Math.max(vary, 1);
        }

        int limit() {
            return Math.max(9 * Math.max(smooth / 8, latest) / 8, 1);
        }
    }

    /** How much is on its way, and how much may be. */
    private static final class Flow {
        int inFlight;
        int window;
        int threshold;
        int recovery;

        Flow() {
            window = FIRST_WINDOW;
            threshold = NONE;
            recovery = NONE;
        }

        void enter(Packet packet) {
            if (packet.isCounted) {
                inFlight += packet.size;
            }
            packet.isFilling = inFlight > window - MOST_SIZE;
        }

        void leave(Packet packet) {
            if (packet.isCounted) {
                inFlight -= packet.size;
            }
        }

        /** How many there are from the first one on. */
        int leaveAcknowledged(Packet first) {
            int count = 0;
            for (Packet packet = first; packet != null; packet = packet.follower) {
                count++;
                leave(packet);
                if (packet.isCounted && packet.isFilling && isAfterRecovery(packet)) {
                    grow(packet.size);
                }
            }
            return count;
        }

        private void grow(int size) {
            if (threshold == NONE || window < threshold) {
                window += size;
            } else if (window > 0) {
                window += MOST_SIZE * size / window;
            }
        }

        void leaveLost(Packet first, int now) {
            boolean shrinks = false;
            for (Packet packet = first; packet != null; packet = packet.follower) {
                leave(packet);
                shrinks = shrinks || (packet.isCounted && isAfterRecovery(packet));
            }
            if (shrinks) {
                recovery = now;
                threshold = window / 2;
                window = Math.max(threshold, LEAST_WINDOW);
            }
        }

        void collapse() {
            window = LEAST_WINDOW;
            recovery = NONE;
        }

        private boolean isAfterRecovery(Packet packet) {
            return recovery == NONE || packet.sentAt > recovery;
        }
    }

    /** What came in one space: its ranges, the greatest one first, and what is PENDING. */
    private static final class Arrivals {
        final long[] lows;
        final long[] highs;
        int count;
        long floor;
        int pending;
        private int firstPendingAt;
        private boolean isOutOfOrder;
        private int greatestAt;

        Arrivals() {
            // One place more, so that a range can be put in before the lowest one goes.
            lows = new long[MOST_RANGES + 1];
            highs = new long[MOST_RANGES + 1];
        }

        boolean enter(long number, boolean eliciting, int now) {
            int place = firstNotAbove(number);
            if (number < floor || (place < count && number <= highs[place])) {
                return false;
            }
            long greatest = count == 0 ? NONE : highs[0];
            keep(number, place);
            if (eliciting) {
                hold(number != greatest + 1, now);
            }
            if (number > greatest) {
                greatestAt = now;
            }
            return true;
        }

        /** The first range that does not lie above a number, or how many there are. */
        private int firstNotAbove(long number) {
            for (int k = 0; k < count && k < lows.length; k++) {
                if (lows[k] <= number) {
                    return k;
                }
            }
            return count;
        }

        private void keep(long number, int place) {
            boolean joinsAbove = place > 0 && lows[place - 1] == number + 1;
            boolean joinsBelow = place < count && highs[place] == number - 1;
            if (joinsAbove && joinsBelow) {
                lows[place - 1] = lows[place];
                remove(place);
            } else if (joinsAbove) {
                lows[place - 1] = number;
            } else if (joinsBelow) {
                highs[place] = number;
            } else {
                insert(number, place);
            }
        }

        private void remove(int place) {
            count--;
            for (int k = place; k < count; k++) {
                lows[k] = lows[k + 1];
                highs[k] = highs[k + 1];
            }
        }

        private void insert(long number, int place) {
            for (int k = count; k > place; k--) {
                lows[k] = lows[k - 1];
                highs[k] = highs[k - 1];
            }
            lows[place] = number;
            highs[place] = number;
            count++;
            if (count > MOST_RANGES) {
                count--;
                floor = highs[count] + 1;
            }
        }

        private void hold(boolean outOfOrder, int now) {
            if (pending == 0) {
                firstPendingAt = now;
            }
            pending++;
            isOutOfOrder = isOutOfOrder || outOfOrder;
        }

        /** Whether an acknowledgement that may wait is DUE. */
        boolean isPressing(int now) {
            if (pending == 0) {
                return false;
            }
            return pending >= 2 || isOutOfOrder || now - firstPendingAt >= LONGEST_WAIT;
        }

        /** Nothing is pending from here on; the DELAY. */
        int settle(int now) {
            pending = 0;
            isOutOfOrder = false;
            return now - greatestAt;
        }

        void forget() {
            count = 0;
            floor = 0;
            pending = 0;
            isOutOfOrder = false;
        }
    }
}
