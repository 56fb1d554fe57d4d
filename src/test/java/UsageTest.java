import java.io.IOException;
import java.nio.file.DirectoryStream;
import java.nio.file.Files;
import java.nio.file.Path;

/** README.md: its example answers what it says, and it names every call and every test. */
public final class UsageTest {
    private static final Path TESTS = Path.of("src/test/java");

    public static void main(String[] args) throws IOException {
        checkExample();
        String readme = Files.readString(Path.of("README.md"));
        Bench.due("README.md has the example", readme.contains("```java\n" + example() + "```\n"), true);
        checkCalls(readme);
        checkTests(readme);
        Bench.end();
    }

    private static void checkExample() {
        // The example begins.
        JsonTwin twin = new JsonTwin();
        twin.feed(0x7B226222, 0x3A312E30, 0x2C226122, 0x3A5B5D7D, 0);           // {"b":1.0,"a":[]}, and four octets 0
        int values = twin.read(0, 16);              // 5: the OBJECT, "b", 1.0, "a", []
        twin.feed(0x7B226122, 0x3A5B5D2C, 0x2262223A, 0x3130652D, 0x317D0000);  // {"a":[],"b":10e-1}
        int others = twin.read(1, 18);              // 5
        int wrong = twin.wrong();                   // -1: it was not WRONG
        int kind = twin.value(0, 2, 0);             // JsonTwin.NUMBER, that is 3
        int letter = twin.letter(0, 1, 0);          // 98, that is b
        boolean same = twin.same(0, 0, 1, 0);       // true
        int order = twin.compare(0, 2, 1, 4);       // 0: 1.0 and 10e-1 are the same
        twin.feed(0x2F610000, 0, 0, 0, 0);          // /a
        int found = twin.pointer(0, 2);             // 4
        int size = twin.write(0, 0);                // 14: {"a":[],"b":1}
        long eight = twin.octets(0);                // 0x7B2261223A5B5D2CL, that is {"a":[],
        int written = twin.count(3);                // 14
        // The example ends.
        Bench.due("values", values, 5);
        Bench.due("others", others, 5);
        Bench.due("wrong", wrong, -1);
        Bench.due("kind", kind, JsonTwin.NUMBER);
        Bench.due("letter", letter, 98);
        Bench.due("same", same, true);
        Bench.due("order", order, 0);
        Bench.due("found", found, 4);
        Bench.due("size", size, 14);
        Bench.due("eight", eight, 0x7B2261223A5B5D2CL);
        Bench.due("written", written, 14);
    }

    /** The lines of the example above. */
    private static String example() throws IOException {
        StringBuilder example = new StringBuilder();
        boolean within = false;
        for (String line : Files.readAllLines(TESTS.resolve("UsageTest.java"))) {
            if (line.strip().equals("// The example ends.")) {
                break;
            }
            if (within) {
                example.append(line.strip()).append('\n');
            }
            within |= line.strip().equals("// The example begins.");
        }
        return example.toString();
    }

    private static void checkCalls(String readme) {
        String[] calls = {"feed(a, b, c, d, e)", "read(t, n)", "wrong()", "value(t, v, what)", "letter(t, v, k)", "same(t, v, u, w)",
            "compare(t, v, u, w)", "pointer(t, n)", "write(t, v)", "octets(k)", "count(what)"};
        for (String call : calls) {
            Bench.due("README.md tells " + call, readme.contains("| `" + call + "` |"), true);
        }
    }

    private static void checkTests(String readme) throws IOException {
        try (DirectoryStream<Path> files = Files.newDirectoryStream(TESTS, "*.java")) {
            for (Path file : files) {
                String name = file.getFileName().toString().replace(".java", "");
                Bench.due("README.md names " + name, readme.contains("`" + name + "`"), true);
            }
        }
    }
}
