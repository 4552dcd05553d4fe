import java.util.ArrayDeque;
import java.util.ArrayList;
import java.util.List;
import java.util.NoSuchElementException;
import java.util.TreeSet;

/**
 * The document written a second time, with nothing kept that can be counted again: slow, and made
 * to be compared with. It shares no line of thought about memory with the class.
 */
final class Model {
    static final class P {
        int size;
        int sent;
        boolean eliciting;
        boolean counted;
        boolean filling;
        int state;
    }

    static final class S {
        final List<P> packets = new ArrayList<>();
        final ArrayDeque<Integer> acknowledged = new ArrayDeque<>();
        final ArrayDeque<Integer> lost = new ArrayDeque<>();
        final TreeSet<Long> came = new TreeSet<>();
        final List<int[]> pending = new ArrayList<>();
        long floor;
        int greatestCameAt;
        int greatest = -1;
        int lossTime = -1;
        boolean discarded;

        long out(boolean elicitingOnly) {
            return discarded ? 0
                    : packets.stream().filter(p -> p.state == 0 && (p.eliciting || !elicitingOnly)).count();
        }

        List<long[]> ranges() {
            List<long[]> found = new ArrayList<>();
            for (long n : came.descendingSet()) {
                long[] last = found.isEmpty() ? null : found.get(found.size() - 1);
                if (last != null && last[0] == n + 1) {
                    last[0] = n;
                } else {
                    found.add(new long[] {n, n});
                }
            }
            return found;
        }
    }

    final S[] spaces = {new S(), new S(), new S()};
    final List<long[]> spans = new ArrayList<>();
    final List<Integer> sendings = new ArrayList<>();
    int time;
    int window = 12000;
    int threshold = -1;
    int recovery = -1;
    int smooth = 800;
    int vary = 200;
    int latest;
    int least = -1;
    int firstSample = -1;
    int backoff;
    boolean confirmed;
    boolean anxious;
    /** How often the run came to rare places, so that the test can tell that it met them. */
    int collapses;
    int shrinks;
    int growths;
    int slowGrowths;

    S at(int space) {
        if (space != 0 && space != 1 && space != 2) {
            throw new IllegalArgumentException();
        }
        return spaces[space];
    }

    static void open(S s) {
        if (s.discarded) {
            throw new IllegalStateException();
        }
    }

    static void demand(boolean holds) {
        if (!holds) {
            throw new IllegalArgumentException();
        }
    }

    int flight() {
        int sum = 0;
        for (S s : spaces) {
            for (P p : s.packets) {
                sum += !s.discarded && p.counted && p.state == 0 ? p.size : 0;
            }
        }
        return sum;
    }

    int patience(int space, boolean sure) {
        return smooth / 8 + (vary < 1 ? 1 : vary) + (space == 2 && sure ? 25 : 0);
    }

    int limit() {
        int l = 9 * (smooth / 8 > latest ? smooth / 8 : latest) / 8;
        return l < 1 ? 1 : l;
    }

    int send(int space, int size, boolean eliciting, boolean counted) {
        S s = at(space);
        demand(size >= 1 && size <= 1200 && (counted || !eliciting));
        open(s);
        P p = new P();
        p.size = size;
        p.sent = time;
        p.eliciting = eliciting;
        p.counted = counted;
        s.packets.add(p);
        sendings.add(time);
        p.filling = flight() > window - 1200;
        return s.packets.size() - 1;
    }

    int span(long low, long high) {
        demand(0 <= low && low <= high);
        if (!spans.isEmpty()) {
            demand(high <= spans.get(spans.size() - 1)[0] - 2);
        }
        if (spans.size() == 64) {
            throw new IllegalStateException();
        }
        spans.add(new long[] {low, high});
        return spans.size();
    }

    int acknowledge(int space, int delay) {
        List<long[]> ranges = new ArrayList<>(spans);
        spans.clear();
        S s = at(space);
        open(s);
        demand(delay >= 0 && delay <= 100000 && !ranges.isEmpty() && ranges.get(0)[1] < s.packets.size());
        int greatest = (int) ranges.get(0)[1];
        s.greatest = greatest > s.greatest ? greatest : s.greatest;
        TreeSet<Integer> news = new TreeSet<>();
        for (int n = 0; n < s.packets.size(); n++) {
            for (long[] r : ranges) {
                if (r[0] <= n && n <= r[1] && s.packets.get(n).state == 0) {
                    news.add(n);
                }
            }
        }
        if (news.isEmpty()) {
            return 0;
        }
        if (news.contains(greatest) && news.stream().anyMatch(n -> s.packets.get(n).eliciting)) {
            sample(time - s.packets.get(greatest).sent, space == 2 ? Math.min(delay, 25) : 0);
        }
        for (int n : news) {
            P p = s.packets.get(n);
            p.state = 1;
            s.acknowledged.add(n);
            if (p.counted && p.filling && (recovery == -1 || p.sent > recovery)) {
                boolean below = threshold == -1 || window < threshold;
                growths += below ? 1 : 0;
                slowGrowths += below ? 0 : 1;
                window += below ? p.size : 1200 * p.size / window;
            }
        }
        losses(s);
        backoff = 0;
        return news.size();
    }

    void sample(int way, int delay) {
        int r = way;
        latest = r;
        least = least == -1 || r < least ? r : least;
        if (firstSample == -1) {
            firstSample = time;
            smooth = 8 * r;
            vary = 2 * r;
            return;
        }
        if (r >= least + delay) {
            r -= delay;
        }
        int e = smooth / 8 > r ? smooth / 8 - r : r - smooth / 8;
        vary = vary + e - vary / 4;
        smooth = smooth + r - smooth / 8;
    }

    void losses(S s) {
        List<Integer> found = new ArrayList<>();
        int limit = limit();
        s.lossTime = -1;
        for (int n = 0; n < s.greatest; n++) {
            P p = s.packets.get(n);
            if (p.state != 0) {
                continue;
            }
            if (n <= s.greatest - 3 || time - p.sent >= limit) {
                p.state = 2;
                s.lost.add(n);
                found.add(n);
            } else if (s.lossTime == -1 || p.sent + limit < s.lossTime) {
                s.lossTime = p.sent + limit;
            }
        }
        boolean shrinks = false;
        for (int n : found) {
            P p = s.packets.get(n);
            shrinks |= p.counted && (recovery == -1 || p.sent > recovery);
        }
        if (shrinks) {
            this.shrinks++;
            recovery = time;
            threshold = window / 2;
            window = threshold < 2400 ? 2400 : threshold;
        }
        collapse(s, found);
    }

    void collapse(S s, List<Integer> found) {
        List<Integer> told = new ArrayList<>();
        for (int n : found) {
            if (s.packets.get(n).eliciting && firstSample != -1 && s.packets.get(n).sent > firstSample) {
                told.add(n);
            }
        }
        if (told.isEmpty()) {
            return;
        }
        int f = told.get(0);
        int l = told.get(told.size() - 1);
        boolean through = false;
        for (int n = f; n <= l; n++) {
            through |= s.packets.get(n).state == 1;
        }
        if (s.packets.get(l).sent - s.packets.get(f).sent > 3 * patience(2, true) && !through) {
            collapses++;
            window = 2400;
            recovery = -1;
        }
    }

    int probe(int space) {
        S s = spaces[space];
        if (s.discarded || (space == 2 && !confirmed)) {
            return -1;
        }
        int wait = patience(space, confirmed);
        for (int k = 0; k < backoff; k++) {
            wait *= 2;
        }
        if (s.out(true) > 0) {
            int last = 0;
            for (P p : s.packets) {
                last = p.eliciting ? p.sent : last;
            }
            return last + wait;
        }
        long anyOut = spaces[0].out(true) + spaces[1].out(true) + spaces[2].out(true);
        int first = !spaces[0].discarded ? 0 : !spaces[1].discarded ? 1 : 2;
        if (anxious && anyOut == 0 && first == space) {
            return (sendings.isEmpty() ? 0 : sendings.get(sendings.size() - 1)) + wait;
        }
        return -1;
    }

    int tick() {
        time++;
        int best = -1;
        for (int k = 2; k >= 0; k--) {
            int t = spaces[k].lossTime;
            if (t != -1 && t <= time && (best == -1 || t <= spaces[best].lossTime)) {
                best = k;
            }
        }
        if (best != -1) {
            losses(spaces[best]);
            return 1;
        }
        for (int k = 2; k >= 0; k--) {
            int t = probe(k);
            if (t != -1 && t <= time && (best == -1 || t <= probe(best))) {
                best = k;
            }
        }
        if (best != -1) {
            backoff = backoff < 10 ? backoff + 1 : 10;
            return 2 + best;
        }
        return 0;
    }

    void discard(int space) {
        S s = at(space);
        open(s);
        s.discarded = true;
        s.lossTime = -1;
        s.greatest = -1;
        s.acknowledged.clear();
        s.lost.clear();
        s.came.clear();
        s.pending.clear();
        s.floor = 0;
        backoff = 0;
    }

    int next(int space, boolean lost) {
        S s = at(space);
        Integer n = lost ? s.lost.poll() : s.acknowledged.poll();
        return n == null ? -1 : n;
    }

    int state(int space, int number) {
        S s = at(space);
        if (number < 0 || number >= s.packets.size()) {
            return -1;
        }
        return s.discarded ? 3 : s.packets.get(number).state;
    }

    boolean came(int space, long number, boolean eliciting) {
        S s = at(space);
        demand(number >= 0 && number <= 4611686018427387903L);
        open(s);
        if (number < s.floor || s.came.contains(number)) {
            return false;
        }
        long before = s.came.isEmpty() ? -1 : s.came.last();
        s.came.add(number);
        if (eliciting) {
            s.pending.add(new int[] {time, number == before + 1 ? 0 : 1});
        }
        if (number > before) {
            s.greatestCameAt = time;
        }
        List<long[]> ranges = s.ranges();
        if (ranges.size() > 64) {
            s.floor = ranges.get(64)[1] + 1;
            s.came.headSet(s.floor).clear();
        }
        return true;
    }

    boolean due(int space) {
        S s = at(space);
        if (s.pending.isEmpty()) {
            return false;
        }
        return space < 2 || s.pending.size() > 1 || s.pending.get(0)[1] == 1
                || time >= s.pending.get(0)[0] + 25;
    }

    int written(int space) {
        S s = at(space);
        open(s);
        if (s.came.isEmpty()) {
            throw new IllegalStateException();
        }
        s.pending.clear();
        return time - s.greatestCameAt;
    }

    long range(int space, int k, boolean greatest) {
        List<long[]> ranges = at(space).ranges();
        if (k < 0 || k >= ranges.size()) {
            throw new NoSuchElementException();
        }
        return ranges.get(k)[greatest ? 1 : 0];
    }

    int look(int what) {
        int[] all = {time, flight(), window, threshold, recovery, smooth, vary, latest, least, backoff,
            limit(), Math.max(0, window - flight())};
        if (what < 0 || what >= all.length) {
            throw new NoSuchElementException();
        }
        return all[what];
    }

    long space(int space, int what) {
        S s = at(space);
        long[] all = {s.packets.size(), s.greatest, s.lossTime, probe(space), s.out(false), s.out(true),
            s.ranges().size(), s.pending.size(), patience(space, confirmed), s.discarded ? 1 : 0, s.floor};
        if (what < 0 || what >= all.length) {
            throw new NoSuchElementException();
        }
        return all[what];
    }
}
