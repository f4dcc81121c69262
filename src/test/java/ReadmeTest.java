import java.io.IOException;
import java.nio.file.Files;
import java.nio.file.Path;
import java.util.List;

/** The example of README.md: each of its calls stands there with the answer that it gives. */
public final class ReadmeTest {
    private static List<String> readme;

    public static void main(String[] args) throws IOException {
        readme = Files.readAllLines(Path.of("README.md"));
        example();
        Expect.finish("ReadmeTest");
    }

    private static void answers(String call, long got, long due) {
        Expect.equal(call, got, due);
        String told = due == StackedRows.NONE ? "NONE" : Long.toString(due);
        Expect.isTrue("README.md tells " + call, readme.stream().anyMatch(
                line -> line.startsWith(call + ";") && line.contains(" // " + told + ":")));
    }

    private static void done(String call) {
        Expect.isTrue("README.md has " + call, readme.stream().anyMatch(line -> line.strip().startsWith(call + ";")));
    }

    private static void example() {
        StackedRows x = new StackedRows();
        answers("x.feed(0x48656c6c, 0x6f2c2057, 0x6f726c64, 0, 0)", x.feed(0x48656c6c, 0x6f2c2057, 0x6f726c64, 0, 0), 20);
        x.end(12);
        done("x.end(12)");
        answers("x.codewords()", x.codewords(), 8);
        answers("x.codeword(0)", x.codeword(0), 237);
        answers("x.make(2, 4)", x.make(2, 4), 5);
        answers("x.place(0, 0)", x.place(0, 0), 1);
        answers("x.place(0, 1)", x.place(0, 1), 12);
        x.put(0, 3, 500);
        done("x.put(0, 3, 500)");
        x.put(1, 2, StackedRows.LOST);
        done("x.put(1, 2, StackedRows.LOST)");
        x.end(0);
        done("x.end(0)");
        answers("x.solve()", x.solve(), 12);
        answers("x.solved(2)", x.solved(2), 1);
        answers("x.byteAt(0)", x.byteAt(0), 'H');
        for (int column = 1; column <= 4; column++) {
            x.put(2, column, StackedRows.LOST);
        }
        done("x.put(2, column, StackedRows.LOST)");
        answers("x.solve()", x.solve(), StackedRows.NONE);
        answers("x.solved(0)", x.solved(0), 3);
    }
}
