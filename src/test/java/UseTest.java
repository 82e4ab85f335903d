import java.io.IOException;
import java.nio.file.Files;
import java.nio.file.Path;
import java.util.ArrayList;
import java.util.List;

/** The example of README.md: its lines stand here too, so that what its comments say is tried out. */
public final class UseTest {
    private static final String README = "README.md";
    private static final String THIS = "src/test/java/UseTest.java";

    public static void main(String[] args) throws IOException {
        example();
        String inReadme = between(README, "```java", "```");
        Check.yes("the example of README.md is there", inReadme.length() > 100);
        Check.yes("the example of README.md is the one that is tried", inReadme.equals(between(THIS, "// README:", "// .")));
        Check.end();
    }

    private static void example() {
        // README:
        SteppedCache cache = new SteppedCache(12, 2);    // 12 items, 2 slots in each of the 8 buckets

        boolean begun = cache.write(0, 42, 1000, 60, 0); // true: a SET of key 42 to 1000 begins, to live for 60
        int steps = cache.work(50);                      // 3: it ends within 50 steps, as every write does
        int outcome = cache.outcome();                   // 1: STORED

        cache.get(0, 42);                                // reader 0 begins to read key 42
        int state = cache.state(0);                      // 1
        while (state < 7) {
            state = cache.step(0);                       // 2, 4, 5, 7: a HIT (8 would be a MISS)
        }
        int value = cache.value(0);                      // 1000
        int token = cache.token(0);                      // 1

        cache.write(3, 42, 2000, 60, token);             // CAS: a change only if the token is still this one
        cache.work(2);                                   // the value is new, the token not yet: the version is odd
        cache.get(1, 42);
        int waiting = cache.step(1);                     // 1: reader 1 has to wait
        cache.work(1);                                   // the last step of the write
        int going = cache.step(1);                       // 2: it goes on

        cache.pass(60);                                  // the item is expired now: a reading ends with 8, MISS
        // .
        Check.yes("write", begun);
        Check.same("steps", steps, 3);
        Check.same("outcome", outcome, 1);
        Check.same("state", state, 7);
        Check.same("value", value, 1000);
        Check.same("token", token, 1);
        Check.same("outcome of the CAS", cache.outcome(), 1);
        Check.same("the reader that waits", waiting, 1);
        Check.same("the reader that goes on", going, 2);
        Drive.steps(cache, 1, 4, 5, 8);
        Check.same("a new reading", Drive.read(cache, 2, 42), 8);
    }

    /** The lines between two marks, without the blanks before each of them. */
    private static String between(String file, String first, String last) throws IOException {
        List<String> lines = new ArrayList<>();
        boolean within = false;
        for (String line : Files.readAllLines(Path.of(file))) {
            if (within && line.strip().equals(last)) {
                return String.join("\n", lines);
            }
            if (within) {
                lines.add(line.strip());
            }
            within = within || line.strip().equals(first);
        }
        return "";
    }
}
