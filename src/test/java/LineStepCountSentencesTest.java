import java.util.Map;

/** Promises 8, 9 (the call itself) and 10, sentence by sentence. */
public final class LineStepCountSentencesTest {
    private static final int NOP = 0xE1A00000;

    public static void main(String[] args) {
        line();
        noSuchLine();
        step();
        noSuchNumberOfSteps();
        count();
        noSuchCount();
        Check.end();
    }

    private static void line() {
        Check.sentence("Promise 8", "The IRQ line (0) or FIQ line (1) is on or off: what it was.");
        for (int line = 0; line < 2; line++) {
            TwoSetMachine x = new TwoSetMachine();
            Check.due("off at first", x.line(line, false), false);
            Check.due("off", x.line(line, true), false);
            Check.due("on", x.line(line, true), true);
            Check.due("the other one is off", x.line(1 - line, false), false);
            Check.due("still on", x.line(line, false), true);
            Check.due("off again", x.line(line, false), false);
            TwoSetMachine y = Check.arm(Check.SVC, NOP);
            y.line(line, true);
            y.status(Check.SVC);
            y.step(1);
            Check.due("line 0 is IRQ", y.count(4), line == 0 ? 1 : 0);
            Check.due("line 1 is FIQ", y.count(5), line == 1 ? 1 : 0);
            Check.due("a step does not switch it off", y.line(line, true), true);
            y.status(Check.SVC);
            Check.due("it comes again while it is on", y.step(1), 1);
            y.line(line, false);
            y.status(Check.SVC);
            y.set(Check.SVC, 15, 0x200);
            Check.due("and not when it is off", y.step(1), 0);
        }
    }

    private static void noSuchLine() {
        Check.sentence("Promise 8", "IndexOutOfBoundsException, when there is no such line.");
        TwoSetMachine x = new TwoSetMachine();
        x.line(1, true);
        for (int line : new int[] {-1, -2, 2, 3, 4, 5, 256, Integer.MIN_VALUE, Integer.MAX_VALUE}) {
            Check.dueThrow("line(" + line + ", true)", () -> x.line(line, true), Check.INDEX);
            Check.dueThrow("line(" + line + ", false)", () -> x.line(line, false), Check.INDEX);
        }
        Check.due("IRQ is off as it was", x.line(0, false), false);
        Check.due("FIQ is on as it was", x.line(1, true), true);
    }

    private static void step() {
        Check.sentence("Promise 9", "So many steps (1 .. 20000) are done: how many of them were faults.");
        for (int n : new int[] {1, 2, 3, 19999, 20000}) {
            // ADD r0, r0, #1; B back: one for each two steps.
            TwoSetMachine x = Check.arm(Check.SVC, 0xE2800001, 0xEAFFFFFD);
            Check.due("step(" + n + ") without faults", x.step(n), 0);
            Check.due("r0 behind " + n, x.get(Check.SVC, 0), (n + 1) / 2);
            Check.due("steps in all", x.count(6), n);
            // SWI at its own vector: nothing but faults.
            TwoSetMachine y = new TwoSetMachine();
            y.poke(8, 0xEF000000);
            y.set(Check.SVC, 15, 8);
            Check.due("step(" + n + ") of faults", y.step(n), n);
            Check.due("SWIs", y.count(1), n);
            // SWI, and back to it by SUBS PC, LR, #4.
            TwoSetMachine z = new TwoSetMachine();
            z.poke(8, 0xE25EF004);
            z.poke(0x200, 0xEF000000);
            z.status(Check.USR);
            z.set(Check.USR, 15, 0x200);
            Check.due("step(" + n + "), each second one a fault", z.step(n), (n + 1) / 2);
        }
        TwoSetMachine x = Check.arm(Check.SVC, NOP);
        x.line(0, true);
        x.line(1, true);
        x.status(Check.SVC);
        Check.due("FIQ counts as a fault", x.step(1), 1);
        x.status(Check.SVC | 0x40);
        Check.due("IRQ counts as a fault", x.step(1), 1);
    }

    private static void noSuchNumberOfSteps() {
        Check.sentence("Promise 9", "IllegalArgumentException, when n is none of these.");
        TwoSetMachine x = Check.arm(Check.SVC, 0xE2800001, 0xEAFFFFFD);
        Map<String, Integer> before = Check.state(x);
        for (int n : new int[] {0, -1, -20000, 20001, 20002, 40000, 65537, Integer.MIN_VALUE, Integer.MAX_VALUE}) {
            Check.dueThrow("step(" + n + ")", () -> x.step(n), Check.ARGUMENT);
        }
        Check.dueStays("a refused call", x, before);
        Check.due("no step was done", x.count(6), 0);
    }

    private static void count() {
        Check.sentence("Promise 10", "Faults of a kind (0 .. 5), steps in all (6), CPSR (7).");
        TwoSetMachine x = new TwoSetMachine();
        int[] want = new int[7];
        for (int kind = 0; kind < 6; kind++) {
            for (int times = 0; times < kind + 2; times++) {
                faultOf(x, kind);
                want[kind]++;
                want[6]++;
            }
        }
        for (int what = 0; what < 7; what++) {
            Check.due("count(" + what + ")", x.count(what), want[what]);
            Check.due("count(" + what + ") again", x.count(what), want[what]);
        }
        Check.due("CPSR behind FIQ", x.count(7), 0xD1);
        x.status(0xF00000DF);
        Check.due("CPSR", x.count(7), 0xF00000DF);
        x.poke(0x200, NOP);
        x.set(Check.SVC, 15, 0x200);
        x.line(0, false);
        x.line(1, false);
        x.step(1);
        Check.due("a step without a fault is a step, too", x.count(6), want[6] + 1);
        x.poke(0x200, 0xEAFFFFFE);
        x.set(Check.SVC, 15, 0x200);
        x.step(20000);
        Check.due("steps of one call", x.count(6), want[6] + 20001);
        for (int kind = 0; kind < 6; kind++) {
            Check.due("no more of kind " + kind, x.count(kind), want[kind]);
        }
    }

    /** One step that is a fault of the kind. */
    private static void faultOf(TwoSetMachine x, int kind) {
        int[] words = {0xE7F000F0, 0xEF000000, 0, 0xE5100004, NOP, NOP};
        x.line(0, kind == 4);
        x.line(1, kind == 5);
        x.status(Check.SVC);
        x.set(Check.SVC, 0, 0);
        x.poke(0x200, words[kind]);
        x.set(Check.SVC, 15, kind == 2 ? 0x40000 : 0x200);
        Check.due("one of kind " + kind, x.step(1), 1);
    }

    private static void noSuchCount() {
        Check.sentence("Promise 10", "IndexOutOfBoundsException, for another what.");
        TwoSetMachine x = new TwoSetMachine();
        for (int what : new int[] {-1, -8, 8, 9, 16, 256, Integer.MIN_VALUE, Integer.MAX_VALUE}) {
            Check.dueThrow("count(" + what + ")", () -> x.count(what), Check.INDEX);
        }
        for (int what = 0; what < 8; what++) {
            int w = what;
            Check.dueThrow("count(" + w + ")", () -> x.count(w), Check.NOTHING);
        }
    }
}
