import java.io.IOException;
import java.nio.file.Files;
import java.nio.file.Path;
import java.util.ArrayList;
import java.util.List;

/** The example of README.md: it compiles as it stands there, and answers as it says. */
public final class ReadmeTest {
    public static void main(String[] args) throws IOException {
        example();
        exampleIsThatOfTheReadme();
        Check.end();
    }

    private static void example() {
        AckBook book = new AckBook();
        book.confirm();                                 // space 2 may probe from now on

        // What was sent.
        int number = book.send(2, 1200, true, true);    // eliciting and counted: its number
        int told = book.tick();                         // time passes: 1 losses were looked for,
                                                        // 2 + space: probe there, 0 nothing
        book.span(number, number);                      // an acknowledgement is put together, the
        int news = book.acknowledge(2, 0);              // greatest range first, and comes: how many are new
        int arrived = book.next(2, false);              // the first of them, -1 when there is none left
        for (int lost = book.next(2, true); lost >= 0; lost = book.next(2, true)) {
            book.send(2, 1200, true, true);             // what was lost goes out with a new number
        }
        int room = book.look(11);                       // how many bytes more may be in flight

        Check.same("number", number, 0);
        Check.same("told", told, 0);
        Check.same("news", news, 1);
        Check.same("arrived", arrived, 0);
        Check.same("room", room, 12000);
        Check.same("nothing was lost", book.space(2, 0), 1);

        // What came.
        boolean isNew = book.came(2, 7, true);          // false: it came before, or is below FLOOR
        Check.same("isNew", isNew, true);
        Check.same("7 is not 0, so an acknowledgement is due at once", book.due(2), true);
        if (book.due(2)) {
            for (int k = 0; k < book.space(2, 6); k++) {
                long greatest = book.range(2, k, true); // the ranges to acknowledge, the greatest first
                long least = book.range(2, k, false);
                Check.same("greatest", greatest, 7);
                Check.same("least", least, 7);
            }
            int delay = book.written(2);                // written: nothing is pending any more
            Check.same("delay", delay, 0);
        }
        Check.same("due", book.due(2), false);

        book.discard(0);                                // the numbers of space 0 are not needed any more
        Check.same("discarded", book.space(0, 9), 1);
    }

    private static void exampleIsThatOfTheReadme() throws IOException {
        List<String> code = stripped("src/test/java/ReadmeTest.java");
        List<String> example = javaBlock(stripped("README.md"));
        Check.same("the README has an example", example.isEmpty(), false);
        int from = 0;
        for (String line : example) {
            int found = code.subList(from, code.size()).indexOf(line);
            if (found < 0) {
                Check.tell("README.md has a line that this test does not run: " + line);
            } else {
                from += found + 1;
            }
        }
    }

    private static List<String> stripped(String path) throws IOException {
        List<String> lines = new ArrayList<>();
        for (String line : Files.readAllLines(Path.of(path))) {
            lines.add(line.strip());
        }
        return lines;
    }

    private static List<String> javaBlock(List<String> lines) {
        int start = lines.indexOf("```java") + 1;
        List<String> rest = lines.subList(start, lines.size());
        int end = rest.indexOf("```");
        return start == 0 || end < 0 ? List.of() : rest.subList(0, end);
    }
}
