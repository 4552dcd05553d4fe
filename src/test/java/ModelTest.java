import java.util.Random;
import java.util.function.LongSupplier;

/** All promises at once: mixed runs on the class and on the model, compared after every call. */
public final class ModelTest {
    private static final int RUNS = 300;
    private static final int CALLS = 512;

    private final Random dice;
    private final AckBook book = new AckBook();
    private final Model model = new Model();
    private final String name;
    /** How a run is tilted: how many numbers an acknowledgement leaves out, and which space is liked. */
    private final int holes;
    private final int liked;
    private final int style;
    private String call = "new";
    /** In runs of one style the line is silent for a time, so that much is lost at once. */
    private boolean silent;
    private int faults;

    private ModelTest(int seed) {
        dice = new Random(seed);
        name = "run " + seed;
        holes = 1 + dice.nextInt(6);
        liked = dice.nextInt(4) == 0 ? dice.nextInt(2) : 2;
        style = seed % 4;
    }

    public static void main(String[] args) {
        int collapses = 0;
        int shrinks = 0;
        int growths = 0;
        int slowGrowths = 0;
        int floors = 0;
        for (int seed = 0; seed < RUNS; seed++) {
            ModelTest run = new ModelTest(seed);
            run.all();
            collapses += run.model.collapses;
            shrinks += run.model.shrinks;
            growths += run.model.growths;
            slowGrowths += run.model.slowGrowths;
            floors += run.model.spaces[2].floor > 0 ? 1 : 0;
        }
        System.out.println("met: " + collapses + " collapses, " + shrinks + " shrinks, " + growths
                + " growths, " + slowGrowths + " slow ones, " + floors + " floors");
        if (collapses < 20 || shrinks < 20 || growths < 20 || slowGrowths < 20 || floors < 5) {
            Check.tell("the runs do not come to every place any more");
        }
        Check.end();
    }

    private void all() {
        if (dice.nextInt(5) > 0) {
            confirm();
        }
        for (int k = 0; k < CALLS && faults == 0; k++) {
            silent = style == 2 && k / 40 % 2 == 1;
            one();
            everything();
        }
    }

    private void one() {
        int kind = dice.nextInt(100);
        if (style == 3 && kind < 60) {
            came();
        } else if (kind < 30) {
            send();
        } else if (kind < 42 && !silent) {
            acknowledge();
        } else if (kind < 62) {
            ticks();
        } else if (kind < 74) {
            came();
        } else if (kind < 84) {
            int space = space();
            boolean lost = dice.nextBoolean();
            same("next(" + space + ", " + lost + ")", () -> book.next(space, lost), () -> model.next(space, lost));
        } else if (kind < 92) {
            int space = space();
            same("written(" + space + ")", () -> book.written(space), () -> model.written(space));
        } else if (kind < 94) {
            boolean is = dice.nextBoolean();
            call = "anxious(" + is + ")";
            book.anxious(is);
            model.anxious = is;
        } else if (kind < 95) {
            rare();
        } else {
            int space = space();
            int k = dice.nextInt(70) - 2;
            same("range(" + space + ", " + k + ", true)",
                    () -> book.range(space, k, true), () -> model.range(space, k, true));
        }
    }

    private void rare() {
        if (dice.nextInt(3) == 0) {
            confirm();
            return;
        }
        int space = dice.nextInt(4) == 0 ? space() : dice.nextInt(2);
        same("discard(" + space + ")", () -> {
            book.discard(space);
            return 0;
        }, () -> {
            model.discard(space);
            return 0;
        });
    }

    private void confirm() {
        call = "confirm()";
        book.confirm();
        model.confirmed = true;
    }

    private int space() {
        int d = dice.nextInt(40);
        return d == 0 ? -1 : d == 1 ? 3 : d < 8 ? dice.nextInt(3) : liked;
    }

    private void send() {
        int space = space();
        int d = dice.nextInt(40);
        int size = d == 0 ? 0 : d == 1 ? 1201 : d < 30 ? 1200 : 1 + dice.nextInt(1200);
        boolean eliciting = dice.nextInt(5) > 0;
        boolean counted = eliciting ? dice.nextInt(40) > 0 : dice.nextBoolean();
        int times = style == 1 ? 1 + dice.nextInt(8) : 1;
        for (int k = 0; k < times; k++) {
            same("send(" + space + ", " + size + ", " + eliciting + ", " + counted + ")",
                    () -> book.send(space, size, eliciting, counted),
                    () -> model.send(space, size, eliciting, counted));
        }
    }

    private void ticks() {
        int times = style == 0 ? dice.nextInt(5) : silent ? dice.nextInt(60) : 1;
        for (int k = 0; k < times && faults == 0; k++) {
            same("tick()", book::tick, model::tick);
        }
    }

    private void span(long low, long high) {
        same("span(" + low + ", " + high + ")", () -> book.span(low, high), () -> model.span(low, high));
    }

    private void acknowledge() {
        int space = space();
        int sent = space < 0 || space > 2 ? 5 : model.spaces[space].packets.size();
        long high = sent - 1 - dice.nextInt(3) + (dice.nextInt(30) == 0 ? 3 : 0);
        if (dice.nextInt(50) == 0) {
            high = Long.MAX_VALUE;
        }
        int ranges = 1 + dice.nextInt(dice.nextInt(30) == 0 ? 70 : 3);
        for (int k = 0; k < ranges; k++) {
            long low = high - (dice.nextInt(4) == 0 ? dice.nextInt(12) : 0);
            span(dice.nextInt(20) == 0 ? Math.max(low, 0) : low, high);
            high = low - 2 - dice.nextInt(holes) + (dice.nextInt(30) == 0 ? 1 : 0);
        }
        int d = dice.nextInt(40);
        int delay = d == 0 ? -1 : d == 1 ? 100001 : d == 2 ? 100000 : dice.nextInt(40);
        same("acknowledge(" + space + ", " + delay + ")",
                () -> book.acknowledge(space, delay), () -> model.acknowledge(space, delay));
    }

    private void came() {
        int space = space();
        boolean eliciting = dice.nextBoolean();
        long top = space < 0 || space > 2 || model.spaces[space].came.isEmpty() ? -1
                : model.spaces[space].came.last();
        int d = dice.nextInt(60);
        long number = d == 0 ? -1 : d == 1 ? 4611686018427387904L
                : d < 20 ? top + 1 : d < 40 ? top + 2 + dice.nextInt(3) : top - dice.nextInt(200);
        same("came(" + space + ", " + number + ", " + eliciting + ")",
                () -> book.came(space, number, eliciting) ? 1 : 0,
                () -> model.came(space, number, eliciting) ? 1 : 0);
    }

    /** What can be asked without changing anything. */
    private void everything() {
        String after = call;
        for (int k = -1; k <= 12; k++) {
            int what = k;
            same(after + ", then look(" + what + ")", () -> book.look(what), () -> model.look(what));
        }
        for (int space = 0; space < 3; space++) {
            int s = space;
            for (int k = -1; k <= 11; k++) {
                int what = k;
                same(after + ", then space(" + s + ", " + what + ")",
                        () -> book.space(s, what), () -> model.space(s, what));
            }
            same(after + ", then due(" + s + ")", () -> book.due(s) ? 1 : 0, () -> model.due(s) ? 1 : 0);
            int number = dice.nextInt(model.spaces[s].packets.size() + 2) - 1;
            same(after + ", then state(" + s + ", " + number + ")",
                    () -> book.state(s, number), () -> model.state(s, number));
            int k = dice.nextInt((int) model.space(s, 6) + 2) - 1;
            same(after + ", then range(" + s + ", " + k + ", false)",
                    () -> book.range(s, k, false), () -> model.range(s, k, false));
        }
        call = after;
    }

    private void same(String what, LongSupplier ours, LongSupplier theirs) {
        call = what;
        String got = answer(ours);
        String want = answer(theirs);
        if (!got.equals(want)) {
            faults++;
            Check.tell(name + ": " + what + " answered " + got + ", the model " + want);
        }
    }

    private static String answer(LongSupplier run) {
        try {
            return Long.toString(run.getAsLong());
        } catch (IllegalArgumentException | IllegalStateException | java.util.NoSuchElementException e) {
            return e.getClass().getName();
        }
    }
}
