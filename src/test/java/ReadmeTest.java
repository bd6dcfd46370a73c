import java.io.IOException;
import java.nio.file.Files;
import java.nio.file.Path;
import java.util.ArrayList;
import java.util.List;

/** The example that README.md shows stands here too, line by line, and does what it says. */
public final class ReadmeTest {
    private static final Due due = new Due("ReadmeTest");

    private static void example() {
        // the example begins
        NoticeStations x = new NoticeStations();
        int number = x.write(0, 1, 10, 20);       // 5: area 1, days 10 to 20; LOCKs to 1, 2, 3, 4
        x.deliver(0);                             // the LOCK to 1: its GRANT lies behind the last
        x.deliver(0);                             // the LOCK to 2; those to 3 and 4 lie there still
        x.deliver(2);                             // the GRANT of 1
        x.deliver(2);                             // the GRANT of 2
        boolean goesOn = x.decide(0);             // true: three of five; PREPAREs to 1 and 2
        x.deliver(2);                             // 1 is in doubt: it sends a PREPARED
        x.deliver(2);                             // 2 too
        x.deliver(2);                             // the PREPARED of 1
        x.deliver(2);                             // the PREPARED of 2: 0 commits; COMMITs to 1 and 2
        x.deliver(2);                             // 1 has the notice
        x.lose(2);                                // the COMMIT to 2 is lost
        int inDoubt = x.about(2, 3);              // 5: what 2 is prepared for
        x.ask(2, 1);                              // an ASK to 1
        x.deliver(2);                             // 1 has it in its book: it sends a COMMIT
        int kind = x.deliver(2);                  // 4: 2 has the notice now
        int entry = x.entry(2, 0, false);         // 8041: 1 + 4 * 10 + 400 * 20
        int inForce = x.inForce(2, 1, 15);        // 1
        boolean twoOfThree = x.allowed(0b00011);  // true: 0 and 1 could write the next
        boolean others = x.allowed(0b11000);      // false: 3 and 4 took no part in the last
        // the example ends
        due.is("number", number, 5);
        due.is("goesOn", goesOn, true);
        due.is("inDoubt", inDoubt, 5);
        due.is("kind", kind, 4);
        due.is("entry", entry, 8041);
        due.is("inForce", inForce, 1);
        due.is("twoOfThree", twoOfThree, true);
        due.is("others", others, false);
    }

    /** The lines between the two, without what stands before and behind them. */
    private static List<String> between(String file, String first, String last)
            throws IOException {
        List<String> found = new ArrayList<>();
        boolean isBetween = false;
        for (String line : Files.readAllLines(Path.of(file))) {
            if (isBetween && line.strip().equals(last)) {
                return found;
            }
            if (isBetween) {
                found.add(line.strip());
            }
            isBetween = isBetween || line.strip().equals(first);
        }
        throw new AssertionError("no example in " + file);
    }

    public static void main(String[] args) throws IOException {
        example();
        List<String> shown = between("README.md", "```java", "```");
        List<String> run = between("src/test/java/ReadmeTest.java", "// the example begins",
                "// the example ends");
        due.is("the example of README.md", String.join("\n", shown), String.join("\n", run));
        due.end();
    }
}
