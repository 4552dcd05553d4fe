/** All that a book tells without a change: two books that tell the same are told apart by later calls alone. */
final class Snapshot {
    private static final int PACKETS = 40;

    private Snapshot() {
    }

    static String of(AckBook book) {
        StringBuilder text = new StringBuilder();
        for (int what = 0; what < 12; what++) {
            text.append(book.look(what)).append(what < 11 ? " " : "\n");
        }
        for (int space = 0; space < 3; space++) {
            ofSpace(book, space, text);
        }
        return text.toString();
    }

    private static void ofSpace(AckBook book, int space, StringBuilder text) {
        text.append("space ").append(space).append(':');
        for (int what = 0; what < 11; what++) {
            text.append(' ').append(book.space(space, what));
        }
        text.append(book.due(space) ? " due" : " not due").append(", states");
        for (int number = -1; number < PACKETS; number++) {
            text.append(' ').append(book.state(space, number));
        }
        text.append(", ranges");
        for (int k = 0; k < book.space(space, 6); k++) {
            text.append(' ').append(book.range(space, k, false)).append("..").append(book.range(space, k, true));
        }
        text.append('\n');
    }

    static void same(String where, String got, String want) {
        if (!got.equals(want)) {
            Check.tell(where + ": the book tells\n" + got + "due is\n" + want);
        }
    }
}
