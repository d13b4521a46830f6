import java.util.Map;

/** Promises 4 and 5, sentence by sentence. */
public final class SetGetSentencesTest {
    private static final int[] VALUES = {0, 1, -1, Integer.MIN_VALUE, Integer.MAX_VALUE, 0x12345677};
    private static final int[] NO_MODES = {0, 1, 0x0F, 0x14, 0x15, 0x16, 0x18, 0x19, 0x1A, 0x1C, 0x1D, 0x1E, 0x20, 0x30, 0x33,
        0x53, 0x93, 0xD3, 0x113, -1, 0x80000013, Integer.MIN_VALUE, Integer.MAX_VALUE};
    private static final int[] NO_REGISTERS = {-1, -16, 16, 17, 31, 256, Integer.MIN_VALUE, Integer.MAX_VALUE};

    public static void main(String[] args) {
        set();
        setProgramCounter();
        setWithoutMode();
        setWithoutRegister();
        get();
        getWithoutMode();
        getWithoutRegister();
        Check.end();
    }

    private static void set() {
        Check.sentence("Promise 4", "Register i of a mode is another one");
        for (int mode : Check.MODES) {
            for (int i = 0; i < 15; i++) {
                TwoSetMachine x = new TwoSetMachine();
                Map<String, Integer> before = Check.state(x);
                for (int v : VALUES) {
                    x.set(mode, i, v);
                    Check.due("set(" + mode + ", " + i + ", " + v + ")", x.get(mode, i), v);
                }
                Check.dueStays("set(" + mode + ", " + i + ")", x, before, Check.register(mode, i));
            }
        }
    }

    private static void setProgramCounter() {
        Check.sentence("Promise 4", "(r15: its lowest bits as when it is written).");
        for (int mode : Check.MODES) {
            for (int v : VALUES) {
                for (int low = 0; low < 4; low++) {
                    TwoSetMachine x = new TwoSetMachine();
                    x.set(mode, 15, v & ~3 | low);
                    Check.due("r15 with " + low, x.get(mode, 15), v & ~3);
                    x.status(0xF3);
                    x.set(mode, 15, v & ~3 | low);
                    Check.due("r15 in THUMB with " + low, x.get(mode, 15), v & ~3 | low & 2);
                }
            }
        }
        // The T that counts is that of CPSR, not that of an SPSR.
        TwoSetMachine x = new TwoSetMachine();
        x.saved(Check.IRQ, 0x30);
        x.set(Check.IRQ, 15, 0x1006);
        Check.due("T of an SPSR does not count", x.get(Check.IRQ, 15), 0x1004);
    }

    private static void setWithoutMode() {
        Check.sentence("Promise 4", "IllegalArgumentException, when there is no such mode;");
        TwoSetMachine x = new TwoSetMachine();
        Map<String, Integer> before = Check.state(x);
        for (int mode : NO_MODES) {
            for (int i : new int[] {0, 13, 15}) {
                Check.dueThrow("set(" + mode + ", " + i + ", -1)", () -> x.set(mode, i, -1), Check.ARGUMENT);
            }
        }
        Check.dueStays("a refused call", x, before);
    }

    private static void setWithoutRegister() {
        Check.sentence("Promise 4", "IndexOutOfBoundsException, when i is not 0 .. 15.");
        TwoSetMachine x = new TwoSetMachine();
        Map<String, Integer> before = Check.state(x);
        for (int mode : Check.MODES) {
            for (int i : NO_REGISTERS) {
                Check.dueThrow("set(" + mode + ", " + i + ", -1)", () -> x.set(mode, i, -1), Check.INDEX);
            }
        }
        Check.dueStays("a refused call", x, before);
        Check.dueThrow("set r0", () -> x.set(Check.SVC, 0, 1), Check.NOTHING);
        Check.dueThrow("set r15", () -> x.set(Check.SVC, 15, 1), Check.NOTHING);
    }

    private static void get() {
        Check.sentence("Promise 5", "Register i of a mode (r15: the address of the next instruction).");
        for (int mode : Check.MODES) {
            TwoSetMachine x = Check.arm(mode, 0xE1A00000, 0xEA000010, 0xEF000000);
            for (int other : Check.MODES) {
                Check.due("r15 of " + other + " ahead of a step", x.get(other, 15), 0x200);
            }
            x.step(1);
            Check.due("r15 behind a step, not plus 8", x.get(mode, 15), 0x204);
            x.step(1);
            Check.due("r15 behind a branch", x.get(mode, 15), 0x204 + 8 + 0x40);
            x.set(mode, 15, 0x208);
            x.step(1);
            Check.due("r15 behind a fault", x.get(mode, 15), 8);
            TwoSetMachine y = Check.thumb(mode, 0x46C0, 0x46C0);
            y.step(1);
            Check.due("r15 in THUMB", y.get(mode, 15), 0x202);
        }
        // A mode is asked by its number, whichever one CPSR has.
        TwoSetMachine x = new TwoSetMachine();
        x.set(Check.FIQ, 8, 18);
        x.set(Check.USR, 8, 8);
        for (int now : Check.MODES) {
            x.status(now);
            Check.due("r8 of FIQ in " + now, x.get(Check.FIQ, 8), 18);
            Check.due("r8 of USR in " + now, x.get(Check.USR, 8), 8);
            Check.due("r8 of IRQ in " + now, x.get(Check.IRQ, 8), 8);
        }
    }

    private static void getWithoutMode() {
        Check.sentence("Promise 5", "IllegalArgumentException, when there is no such mode;");
        TwoSetMachine x = new TwoSetMachine();
        for (int mode : NO_MODES) {
            for (int i : new int[] {0, 13, 15}) {
                Check.dueThrow("get(" + mode + ", " + i + ")", () -> x.get(mode, i), Check.ARGUMENT);
            }
        }
    }

    private static void getWithoutRegister() {
        Check.sentence("Promise 5", "IndexOutOfBoundsException, when i is not 0 .. 15.");
        TwoSetMachine x = new TwoSetMachine();
        for (int mode : Check.MODES) {
            for (int i : NO_REGISTERS) {
                Check.dueThrow("get(" + mode + ", " + i + ")", () -> x.get(mode, i), Check.INDEX);
            }
        }
        Check.dueThrow("get r0", () -> x.get(Check.SVC, 0), Check.NOTHING);
        Check.dueThrow("get r15", () -> x.get(Check.SVC, 15), Check.NOTHING);
    }
}
