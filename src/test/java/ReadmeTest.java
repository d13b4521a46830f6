import java.io.IOException;
import java.nio.file.Files;
import java.nio.file.Path;
import java.util.List;

/** What README.md says under "Use" is so: its example, line by line, and its table. Called with the project's root. */
public final class ReadmeTest {
    private static final List<String> CALLS = List.of("poke(address, word)", "peek(address)", "set(mode, i, v)", "get(mode, i)",
            "status(v)", "saved(mode, v)", "line(line, on)", "step(n)", "count(what)");

    private final List<String> lines;
    private final TwoSetMachine machine = new TwoSetMachine();

    private ReadmeTest(List<String> lines) {
        this.lines = lines;
    }

    public static void main(String[] args) throws IOException {
        Path root = Path.of(args.length > 0 ? args[0] : ".");
        ReadmeTest test = new ReadmeTest(Files.readAllLines(root.resolve("README.md")));
        test.example();
        test.table();
        Check.end();
    }

    private void example() {
        poke(0x200, 0xE3A01005);
        poke(0x204, 0xE28F2001);
        poke(0x208, 0xE12FFF12);
        poke(0x20C, 0xDF003103);
        machine.set(0x13, 15, 0x200);
        dueLine("machine.set(0x13, 15, 0x200);", "");
        due("machine.step(5);", "1", machine.step(5), 1);
        due("machine.get(0x13, 1);", "8", machine.get(0x13, 1), 8);
        due("machine.get(0x13, 14);", "0x210", machine.get(0x13, 14), 0x210);
        due("machine.get(0x13, 15);", "8", machine.get(0x13, 15), 8);
        due("machine.saved(0x13, 0);", "0xF3", machine.saved(0x13, 0), 0xF3);
        due("machine.count(7);", "0xD3", machine.count(7), 0xD3);
    }

    private void poke(int address, int word) {
        Check.due("nothing stood there", machine.poke(address, word), 0);
        dueLine(String.format("machine.poke(0x%X, 0x%X);", address, word), "");
    }

    private void due(String call, String told, int got, int want) {
        dueLine(call, told);
        Check.due(call, got, want);
    }

    /** One line of README.md has the call and, in the comment behind it, begins with what it answers. */
    private void dueLine(String call, String told) {
        long found = lines.stream().filter(line -> line.contains(call)
                && line.substring(line.indexOf("//") + 2).strip().startsWith(told)).count();
        Check.due("lines of README.md with " + call + " and " + told, (int) found, 1);
    }

    private void table() {
        for (String call : CALLS) {
            long rows = lines.stream().filter(line -> line.startsWith("| `" + call + "` |")).count();
            Check.due("rows of README.md for " + call, (int) rows, 1);
        }
        long tests = lines.stream().filter(line -> line.equals(".ci/run")).count();
        Check.due("how to run the tests", (int) tests, 1);
    }
}
