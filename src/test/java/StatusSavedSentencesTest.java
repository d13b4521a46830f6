import java.util.Map;

/** Promises 6 and 7, sentence by sentence. */
public final class StatusSavedSentencesTest {
    private static final int[] VALUES = {0x10, 0xF00000DF, 0x60000091, 0x92, 0x900000D3, 0x57, 0x8000001B};

    public static void main(String[] args) {
        status();
        modeThatIsNone();
        programCounter();
        saved();
        savedOfNone();
        Check.end();
    }

    private static void status() {
        Check.sentence("Promise 6", "CPSR is another one (all bits that there are;");
        for (int from : Check.MODES) {
            for (int v : VALUES) {
                TwoSetMachine x = new TwoSetMachine();
                x.status(from);
                Map<String, Integer> before = Check.state(x);
                x.status(v);
                Check.due("from " + from + ", status(" + v + ")", x.count(7), v);
                Check.dueStays("status(" + v + ")", x, before, "CPSR");
            }
        }
        TwoSetMachine x = new TwoSetMachine();
        x.status(-1);
        Check.due("status(-1)", x.count(7), 0xF00000FF);
        x.status(0x0FFFFF10);
        Check.due("status of bits 27 .. 8", x.count(7), 0x10);
        for (int bit : new int[] {31, 30, 29, 28, 7, 6, 5}) {
            x.status(1 << bit | 0x10);
            Check.due("bit " + bit, x.count(7), 1 << bit | 0x10);
        }
    }

    private static void modeThatIsNone() {
        Check.sentence("Promise 6", "a mode that is none: the mode stays;");
        for (int from : Check.MODES) {
            for (int none = 0; none < 32; none++) {
                if (!Check.isMode(none)) {
                    TwoSetMachine x = new TwoSetMachine();
                    x.status(from | 0x40);
                    x.status(0xA00000A0 | none);
                    Check.due("from " + from + " to " + none, x.count(7), 0xA00000A0 | from);
                }
            }
        }
    }

    private static void programCounter() {
        Check.sentence("Promise 6", "PC as if it were written): the one before.");
        for (int high : new int[] {0x100, 0x3FFFC, 0x80000000, -4}) {
            TwoSetMachine x = new TwoSetMachine();
            Check.due("the one before", x.status(0xF3), 0xD3);
            x.set(Check.SVC, 15, high | 2);
            Check.due("the one before", x.status(0x30), 0xF3);
            Check.due("T stays: the lowest bit alone", x.get(Check.SVC, 15), high | 2);
            Check.due("the one before", x.status(0x1F), 0x30);
            Check.due("T goes: the lowest two bits", x.get(Check.SVC, 15), high);
            Check.due("the one before", x.status(0x20), 0x1F);
            Check.due("T comes", x.get(Check.SVC, 15), high);
            Check.due("the one before, its mode had stayed", x.status(-1), 0x3F);
            Check.due("the one before", x.status(0), 0xF00000FF);
        }
    }

    private static void saved() {
        Check.sentence("Promise 7", "SPSR of a mode is another one: the one before.");
        for (int mode : Check.MODES) {
            if (Check.hasSaved(mode)) {
                TwoSetMachine x = new TwoSetMachine();
                Map<String, Integer> before = Check.state(x);
                Check.due("saved(" + mode + ", 0x30)", x.saved(mode, 0x30), 0);
                Check.due("saved(" + mode + ", -1)", x.saved(mode, -1), 0x30);
                Check.due("saved(" + mode + ", 1)", x.saved(mode, 1), 0xF00000FF);
                Check.due("saved(" + mode + ", 2)", x.saved(mode, 2), 1);
                Check.dueStays("saved(" + mode + ")", x, before, Check.savedOf(mode));
            }
        }
    }

    private static void savedOfNone() {
        Check.sentence("Promise 7", "IllegalArgumentException, when it has none.");
        TwoSetMachine x = new TwoSetMachine();
        Map<String, Integer> before = Check.state(x);
        for (int mode = -1; mode < 64; mode++) {
            if (!Check.hasSaved(mode)) {
                int m = mode;
                Check.dueThrow("saved(" + m + ", 1)", () -> x.saved(m, 1), Check.ARGUMENT);
            }
        }
        for (int mode : new int[] {0xD3, 0x113, 0x80000013, Integer.MIN_VALUE, Integer.MAX_VALUE}) {
            Check.dueThrow("saved(" + mode + ", 1)", () -> x.saved(mode, 1), Check.ARGUMENT);
        }
        Check.dueStays("a refused call", x, before);
    }
}
