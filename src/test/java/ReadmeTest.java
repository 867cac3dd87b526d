import java.io.IOException;
import java.lang.reflect.Method;
import java.lang.reflect.Modifier;
import java.nio.file.Files;
import java.nio.file.Path;
import java.util.ArrayList;
import java.util.List;

/** README.md: its example is the one below and answers what it says, and it tells of every call. */
public final class ReadmeTest {
    private static final Path README = Path.of("README.md");
    private static final Path SELF = Path.of("src/test/java/ReadmeTest.java");

    public static void main(String[] args) throws IOException {
        Check check = new Check();
        List<String> told = between(README, "```java", "```");
        List<String> played = between(SELF, "// The example begins.", "// The example ends.");
        if (told.isEmpty() || !told.equals(played)) {
            check.report("the example of README.md is not the one that is played here");
        }
        example(check);
        everyCallIsTold(check);
        check.end();
    }

    private static void example(Check check) {
        // The example begins.
        IssueHouse house = new IssueHouse();
        house.clock(0, 1000);
        house.start(0);                      // PREPARE is sent to all nodes
        while (house.letters() > 0) {
            house.deliver(0);                // until no letter is answered any more
        }
        long number = house.next(0);         // time 1000, seat 0, counter 0
        long first = house.batch(0, 100);    // the first of 100: time 1000, seat 0, counter 1
        long time = house.part(first, 0);    // 1000
        house.prolong(0);                    // ready with what it has, until the third YES
        // The example ends.
        check.due("number", number, Play.number(1000, 0, 0));
        check.due("first", first, Play.number(1000, 0, 1));
        check.due("time", time, 1000);
        check.issuer(house, 0, 1, 1, 0, 1, 60999, 1000, 0, 101);
        check.due("letters()", house.letters(), 5);
    }

    private static void everyCallIsTold(Check check) throws IOException {
        String text = Files.readString(README);
        for (Method m : IssueHouse.class.getDeclaredMethods()) {
            if (Modifier.isPublic(m.getModifiers()) && !text.contains("| `" + m.getName() + "(")) {
                check.report("README.md does not tell of " + m.getName());
            }
        }
    }

    /** The lines between the first one that is begin and the next one that is end, without what indents them. */
    private static List<String> between(Path file, String begin, String end) throws IOException {
        List<String> found = new ArrayList<>();
        boolean within = false;
        for (String line : Files.readAllLines(file)) {
            String text = line.strip();
            if (within && text.equals(end)) {
                return found;
            }
            if (within) {
                found.add(text);
            }
            within |= text.equals(begin);
        }
        return found;
    }
}
