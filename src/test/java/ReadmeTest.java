import java.io.IOException;
import java.nio.file.Files;
import java.nio.file.Path;
import java.util.ArrayList;
import java.util.List;

/** The examples of README.md stand here too, word for word, so that they compile and do what they say. */
public final class ReadmeTest {
    private static final Check check = new Check();
    private static final String README = "README.md", THIS = "src/test/java/ReadmeTest.java";

    public static void main(String[] args) throws IOException {
        examplesAreTheSame();
        check.all(ReadmeTest::firstExample, ReadmeTest::secondExample);
        check.end();
    }

    private static StrataClient asked() {
        // example
        StrataClient client = new StrataClient();
        client.run(1000000);                   // the clock goes on; it starts at 0
        client.send(0);                        // server 0 is asked, now
        client.run(50000);                     // the answer takes its time
        client.echo(0, 300000, 260000);        // the packet becomes an answer: T2 and T3 are ahead of our clock
        client.put(1, 2, 1);                   // byte 1 of it, the server's stratum, becomes 2
        if (client.receive(0) == StrataClient.SAMPLE) {
            long offset = client.offset(0);    // 280000
            if (client.update() == StrataClient.SLEWED) {
                client.run(1L << 32);          // one second, in which the clock gains up to 1/2048 of it
            }
        }
        // end
        return client;
    }

    // example
    static boolean take(StrataClient client, int server, long[] sixLongs) {
        for (int i = 0; i < 6; i++) {
            client.put(8 * i, sixLongs[i], 8);
        }
        try {
            return client.receive(server) == StrataClient.SAMPLE;
        } catch (IllegalArgumentException e) {
            return false;                  // not an answer of a server
        } catch (IllegalStateException e) {
            return false;                  // not an answer to what this server was asked last, or it is denied
        }
    }
    // end

    private static void firstExample() {
        check.about("README.md: the first example");
        StrataClient x = asked();
        check.due("offset(0)", x.offset(0), 280000);
        check.due("local()", x.local(), 1050000 + (1L << 32) + 280000);
        check.due("slew()", x.slew(), 0);
    }

    private static void secondExample() {
        check.about("README.md: the second example");
        StrataClient x = new StrataClient();
        x.run(7000);
        long origin = x.send(3);
        long flagsAndStratum = 0x2402L << 48;
        long[] answer = {flagsAndStratum, 0, 0, origin, origin + 600, origin + 400};
        long[] anotherOrigin = {flagsAndStratum, 0, 0, origin - 1, 1, 1};
        long[] noAnswer = {0, 0, 0, origin, 1, 1};
        check.due("take of another origin", take(x, 3, anotherOrigin) ? 1 : 0, 0);
        check.due("take of no answer", take(x, 3, noAnswer) ? 1 : 0, 0);
        check.due("take of the answer", take(x, 3, answer) ? 1 : 0, 1);
        check.due("offset(3)", x.offset(3), 500);
        check.due("take of the answer once more", take(x, 3, answer) ? 1 : 0, 0);
    }

    private static void examplesAreTheSame() throws IOException {
        String due = between(THIS, "// example", "// end");
        check.due("there are examples", due.isEmpty() ? 0 : 1, 1);
        check.due("the examples of README.md", between(README, "```java", "```"), due);
    }

    /** The lines that stand between two marks, each mark alone in its line, without their indents. */
    private static String between(String file, String start, String end) throws IOException {
        List<String> found = new ArrayList<>();
        boolean inside = false;
        for (String line : Files.readAllLines(Path.of(file))) {
            String words = line.strip();
            if (words.equals(inside ? end : start)) {
                inside = !inside;
            } else if (inside) {
                found.add(words);
            }
        }
        return String.join("\n", found);
    }
}
