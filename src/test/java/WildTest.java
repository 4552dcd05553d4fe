import java.util.Random;
import java.util.function.LongSupplier;

/**
 * Runs of calls with arguments of the edges alone, on the class and on the model: the answers are the
 * same, and nothing but the exceptions of the document is thrown, in the class's own words.
 */
public final class WildTest {
    private static final int RUNS = 1500;
    private static final int CALLS = 512;
    private static final long MOST = 4611686018427387903L;
    private static final int[] INTS = {
        Integer.MIN_VALUE, Integer.MIN_VALUE + 1, -100001, -1201, -65, -4, -3, -2, -1, 0, 1, 2, 3, 4, 5, 8, 9,
        10, 11, 12, 13, 24, 25, 26, 63, 64, 65, 1199, 1200, 1201, 4095, 4096, 4097, 99999, 100000, 100001,
        Integer.MAX_VALUE - 1, Integer.MAX_VALUE,
    };
    private static final long[] LONGS = {
        Long.MIN_VALUE, Long.MIN_VALUE + 1, Integer.MIN_VALUE, -2, -1, 0, 1, 2, 3, 4, 5, 6, 7, 8, 9, 10, 20, 63, 64,
        65, 4095, 4096, Integer.MAX_VALUE, 1L + Integer.MAX_VALUE, 1L << 32, (1L << 32) + 1, MOST - 2, MOST - 1,
        MOST, MOST + 1, Long.MAX_VALUE - 2, Long.MAX_VALUE - 1, Long.MAX_VALUE,
    };

    private final Random dice;
    private final AckBook book = new AckBook();
    private final Model model = new Model();
    private final StringBuilder told = new StringBuilder();
    private boolean isWrong;

    private WildTest(int seed) {
        dice = new Random(seed);
        told.append("run ").append(seed).append(':');
    }

    public static void main(String[] args) {
        for (int seed = 0; seed < RUNS; seed++) {
            WildTest run = new WildTest(seed);
            for (int k = 0; k < CALLS && !run.isWrong; k++) {
                run.call();
            }
        }
        Check.end();
    }

    private int any() {
        return INTS[dice.nextInt(INTS.length)];
    }

    private long anyLong() {
        return LONGS[dice.nextInt(LONGS.length)];
    }

    private int space() {
        return dice.nextInt(12) == 0 ? any() : dice.nextInt(3);
    }

    private int size() {
        return dice.nextInt(4) == 0 ? any() : 1 + dice.nextInt(2) * 1199;
    }

    private void call() {
        int space = space();
        int number = any();
        boolean yes = dice.nextBoolean();
        switch (dice.nextInt(15)) {
            case 0:
            case 1:
                int size = size();
                boolean counted = yes ? dice.nextInt(10) > 0 : dice.nextBoolean();
                same("send", space, size, () -> book.send(space, size, yes, counted),
                        () -> model.send(space, size, yes, counted));
                break;
            case 2:
            case 3:
                long low = anyLong();
                long high = dice.nextInt(3) == 0 ? anyLong() : low;
                same("span", low, high, () -> book.span(low, high), () -> model.span(low, high));
                break;
            case 4:
                int delay = dice.nextInt(3) == 0 ? number : dice.nextInt(30);
                same("acknowledge", space, delay, () -> book.acknowledge(space, delay),
                        () -> model.acknowledge(space, delay));
                break;
            case 5:
            case 6:
                same("tick", 0, 0, book::tick, model::tick);
                break;
            case 7:
                rare(space, yes);
                break;
            case 8:
                same("next", space, yes ? 1 : 0, () -> book.next(space, yes), () -> model.next(space, yes));
                break;
            case 9:
                same("state", space, number, () -> book.state(space, number), () -> model.state(space, number));
                break;
            case 10:
            case 11:
                long its = anyLong();
                same("came", space, its, () -> book.came(space, its, yes) ? 1 : 0,
                        () -> model.came(space, its, yes) ? 1 : 0);
                break;
            case 12:
                same("due", space, 0, () -> book.due(space) ? 1 : 0, () -> model.due(space) ? 1 : 0);
                same("written", space, 0, () -> book.written(space), () -> model.written(space));
                break;
            case 13:
                same("range", space, number, () -> book.range(space, number, yes),
                        () -> model.range(space, number, yes));
                break;
            default:
                same("look", number, 0, () -> book.look(number), () -> model.look(number));
                same("space", space, number, () -> book.space(space, number), () -> model.space(space, number));
                break;
        }
    }

    private void rare(int space, boolean yes) {
        int kind = dice.nextInt(12);
        if (kind == 0) {
            same("discard", space, 0, () -> {
                book.discard(space);
                return 0;
            }, () -> {
                model.discard(space);
                return 0;
            });
        } else if (kind == 1) {
            book.confirm();
            model.confirmed = true;
        } else if (kind < 5) {
            book.anxious(yes);
            model.anxious = yes;
        }
    }

    private void same(String name, long first, long second, LongSupplier ours, LongSupplier theirs) {
        String got = answer(ours, true);
        String want = answer(theirs, false);
        told.append(' ').append(name).append('(').append(first).append(", ").append(second).append(')');
        if (!got.equals(want)) {
            isWrong = true;
            Check.tell(told + " answered " + got + ", the model " + want);
        }
    }

    /** What the machine throws by itself has a kind of its own, and no text that the class gave it. */
    private static String answer(LongSupplier run, boolean isClass) {
        try {
            return Long.toString(run.getAsLong());
        } catch (RuntimeException e) {
            boolean isOwn = e.getMessage() != null && e.getStackTrace()[0].getClassName().startsWith("AckBook");
            return e.getClass().getName() + (isClass && !isOwn ? " by the machine" : "");
        }
    }
}
