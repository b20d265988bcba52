import java.io.IOException;
import java.io.UncheckedIOException;
import java.nio.file.Files;
import java.nio.file.Path;
import java.util.List;

/** README.md's example of use: its lines run here as they stand there, and answer what they tell. */
public final class UsageTest {
    private static final Due due = new Due("usage");

    public static void main(String[] args) {
        due.sentence("README.md says how to use the class (the example is the one below)", UsageTest::sameLines);
        due.sentence("README.md says how to use the class (what the example answers)", UsageTest::example);
        due.end();
    }

    private static void sameLines() {
        List<String> shown = linesBetween("README.md", "```java", "```");
        List<String> run = linesBetween("src/test/java/UsageTest.java", "// example begins", "// example ends");
        due.holds("the example has lines", run.size() > 20);
        due.holds("README.md's example is\n" + String.join("\n", run), shown.equals(run));
    }

    /** The block under the terminal's key is the one of ANSI X9.24-1's example. */
    private static void example() {
        // example begins
        PinModule module = new PinModule();
        for (int n = 0; n < 3; n++) {
            module.component(n, 0, 0x0123456789abcdefL << n);
            module.component(n, 1, 0xfedcba9876543210L >> n);
        }
        int masterCheck = module.seal();                    // 0x160301, the master key's check value

        module.poke(0, 0x0123456789abcdefL);                // a key is told by longs 0 and 1 of the buffer
        module.poke(1, 0xfedcba9876543210L);
        int keyCheck = module.load(0, 0, true);             // 0x08d7b4: slot 0, usage PIN, may be exported
        module.load(1, 1, false);                           // slot 1, usage MAC, may not be exported
        module.load(2, 2, false);                           // slot 2, usage BASE
        module.load(3, 3, false);                           // slot 3, usage OFFSET

        long account = 0x0004012345678909L;
        module.terminal(0, 2, 0x4c3b2a19087L);              // terminal 0 of slot 2's key, with its serial
        int counter = module.next(0);                       // 1: the terminal has a new key
        module.pin(16, 0x04, account, 0x1234, 0);           // by terminal 0 (16 + 0): format 0, length 4
        long block = module.peek(0);                        // 0x1b9c1845eb993a7aL

        int length = module.translate(16, 0, 0x03, account, 0xabcdefabcdL);  // 4: now format 3, by slot 0
        int right = module.verify(0, 0x33, account, 0x4104);                 // 0: right, by slot 3's key
        int wrong = module.verify(0, 0x33, account, 0x4105);                 // -6: with this offset it is not

        module.message(0, 0x4e6f772069732074L);             // bytes 0 to 7 of the message
        module.code(1, 8);                                  // the code of 8 bytes, by slot 1
        long code = module.peek(0);                         // 0x54c077ec710a06cbL

        int bytes = module.wrap(0);                         // 40: slot 0's key block, longs 0 to 4
        int usage = module.unwrap(4);                       // 0: slot 4 has the same key, usage PIN
        int refused = module.wrap(1);                       // -5: slot 1's key may not be exported
        // example ends
        due.is("masterCheck", masterCheck, 0x160301);
        due.is("keyCheck", keyCheck, 0x08d7b4);
        due.is("counter", counter, 1);
        due.is("block", block, 0x1b9c1845eb993a7aL);
        due.is("length", length, 4);
        due.is("right", right, 0);
        due.is("wrong", wrong, -6);
        due.is("code", code, 0x54c077ec710a06cbL);
        due.is("bytes", bytes, 40);
        due.is("usage", usage, 0);
        due.is("refused", refused, -5);
    }

    /** The lines behind the first one that is such a beginning, up to the next that is such an end, not indented. */
    private static List<String> linesBetween(String file, String begin, String end) {
        List<String> lines = trimmedLines(file);
        int first = lines.indexOf(begin) + 1;
        List<String> rest = lines.subList(first, lines.size());
        int count = rest.indexOf(end);
        return first == 0 || count < 0 ? List.of() : rest.subList(0, count);
    }

    private static List<String> trimmedLines(String file) {
        try {
            return Files.readAllLines(Path.of(file)).stream().map(String::trim).toList();
        } catch (IOException e) {
            throw new UncheckedIOException(e);
        }
    }
}
