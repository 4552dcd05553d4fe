import java.util.function.LongSupplier;

/** What the tests share: each names a call, its answer and the one that is due. */
final class Check {
    private static int wrong;

    private Check() {
    }

    static void same(String call, long got, long want) {
        if (got != want) {
            tell(call + " answered " + got + ", due is " + want);
        }
    }

    static void same(String call, boolean got, boolean want) {
        if (got != want) {
            tell(call + " answered " + got + ", due is " + want);
        }
    }

    static void illegal(String call, LongSupplier run) {
        refused(call, IllegalArgumentException.class, run);
    }

    static void stateless(String call, LongSupplier run) {
        refused(call, IllegalStateException.class, run);
    }

    static void missing(String call, LongSupplier run) {
        refused(call, java.util.NoSuchElementException.class, run);
    }

    private static void refused(String call, Class<?> kind, LongSupplier run) {
        try {
            tell(call + " answered " + run.getAsLong() + ", due is " + kind.getName());
        } catch (RuntimeException e) {
            if (e.getClass() != kind) {
                tell(call + " threw " + e + ", due is " + kind.getName());
            }
        }
    }

    static void tell(String fault) {
        wrong++;
        if (wrong <= 50) {
            System.out.println(fault);
        }
    }

    /** Every number that look tells, in its order. */
    static void looks(String where, AckBook book, int... wants) {
        for (int k = 0; k < wants.length; k++) {
            same(where + ": look(" + k + ")", book.look(k), wants[k]);
        }
    }

    /** Every number that space tells of one space, in its order. */
    static void spaces(String where, AckBook book, int space, long... wants) {
        for (int k = 0; k < wants.length; k++) {
            same(where + ": space(" + space + ", " + k + ")", book.space(space, k), wants[k]);
        }
    }

    /** Ticks that have nothing to tell. */
    static void quiet(AckBook book, int ticks) {
        for (int k = 0; k < ticks; k++) {
            same("tick() to " + (book.look(0) + 1), book.tick(), 0);
        }
    }

    static void ticks(AckBook book, int ticks) {
        for (int k = 0; k < ticks; k++) {
            book.tick();
        }
    }

    static void sends(AckBook book, int space, int size, int packets) {
        for (int k = 0; k < packets; k++) {
            book.send(space, size, true, true);
        }
    }

    static int acknowledged(AckBook book, int space, int delay, long... lowsAndHighs) {
        for (int k = 0; k + 1 < lowsAndHighs.length; k += 2) {
            book.span(lowsAndHighs[k], lowsAndHighs[k + 1]);
        }
        return book.acknowledge(space, delay);
    }

    static void end() {
        System.out.println(wrong == 0 ? "all answers are as due" : wrong + " answers are not as due");
        if (wrong != 0) {
            System.exit(1);
        }
    }
}
