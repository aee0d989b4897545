import java.io.IOException;
import java.nio.ByteBuffer;
import java.nio.charset.StandardCharsets;
import java.nio.file.Files;
import java.nio.file.Path;
import java.util.Arrays;
import java.util.HashSet;
import java.util.Set;

/** The code that README.md shows stands here line for line, and answers what README.md says that it answers. */
public final class ReadmeTest {
    private static int wrong = 0;

    private static void due(String what, long got, long want) {
        if (got != want) {
            wrong++;
            System.out.println(what + " answered " + got + ", README.md tells " + want);
        }
    }

    static int load(SteadyQueues queues, String text) {
        int padded = (text.length() + 19) / 20 * 20;
        byte[] bytes = Arrays.copyOf(text.getBytes(StandardCharsets.ISO_8859_1), padded);
        ByteBuffer ints = ByteBuffer.wrap(bytes);
        while (ints.hasRemaining()) {
            queues.append(ints.getInt(), ints.getInt(), ints.getInt(), ints.getInt(), ints.getInt());
        }
        return queues.load(text.length());
    }

    private static void examples() {
        SteadyQueues queues = new SteadyQueues();
        int one = queues.push(0, 11);       // version 1: 11
        int two = queues.push(one, 22);     // version 2: 11 22
        int three = queues.pop(two);        // version 3: 22
        int first = queues.first(two);      // 11: the old version lasts
        int second = queues.value(two, 0, 1); // 22: list 0 are the values of a version
        int length = queues.version(three, 3); // 1
        int from = queues.version(three, 0);   // 2: version 3 was made of version 2
        due("value(three, 0, 0)", queues.value(three, 0, 0), 22);
        int left = queues.undo();           // 2: version 3 is gone again, two more changes can be undone
        int now = queues.state(0);          // 3 versions
        due("push(0, 11)", one, 1);
        due("push(one, 22)", two, 2);
        due("pop(two)", three, 3);
        due("first(two)", first, 11);
        due("value(two, 0, 1)", second, 22);
        due("version(three, 3)", length, 1);
        due("version(three, 0)", from, 2);
        due("undo()", left, 2);
        due("state(0)", now, 3);

        int versions = load(queues, "queue; pace 3; push 0 11 22 33; pop 3 1;"); // 5: versions 0 to 4
        int popped = queues.first(4);       // 22
        int code = load(queues, "queue; push 0 11; pop 1 2;"); // SteadyQueues.EMPTY: version 1 has one value
        int offset = queues.errorOffset();  // 24: where the number of pops stands
        int still = queues.state(0);        // 5: the text with an error changed nothing
        due("load", versions, 5);
        due("first(4)", popped, 22);
        due("load of a text with an error", code, SteadyQueues.EMPTY);
        due("errorOffset()", offset, 24);
        due("state(0) behind an error", still, 5);
    }

    private static Set<String> linesOf(String path) throws IOException {
        Set<String> lines = new HashSet<>();
        for (String line : Files.readAllLines(Path.of(path), StandardCharsets.ISO_8859_1)) {
            lines.add(line.trim());
        }
        return lines;
    }

    private static void shownCode() throws IOException {
        Set<String> here = linesOf("src/test/java/ReadmeTest.java");
        boolean code = false;
        int shown = 0;
        for (String line : Files.readAllLines(Path.of("README.md"), StandardCharsets.ISO_8859_1)) {
            if (line.startsWith("```")) {
                code = line.equals("```java");
            } else if (code) {
                shown++;
                if (!here.contains(line.trim())) {
                    wrong++;
                    System.out.println("README.md shows a line that is not tested: " + line);
                }
            }
        }
        if (shown == 0) {
            wrong++;
            System.out.println("README.md shows no code");
        }
    }

    public static void main(String[] args) throws IOException {
        examples();
        shownCode();
        System.out.println(wrong == 0 ? "README.md tells what is so" : wrong + " faults");
        if (wrong != 0) {
            System.exit(1);
        }
    }
}
