/** Promises 4 and 5: set and get. */
public final class RegistersTest {
    public static void main(String[] args) {
        banks();
        programCounter();
        wrongInputs();
        currentModeDecides();
        Check.end();
    }

    /** The mode that owns register i of a mode, USR for what USR and SYS have. */
    private static int owner(int mode, int i) {
        if (mode == Check.SYS || i < 8 || i == 15) {
            return Check.USR;
        }
        if (mode == Check.FIQ || i >= 13) {
            return mode;
        }
        return Check.USR;
    }

    private static void banks() {
        for (int mode : Check.MODES) {
            for (int i = 0; i <= 15; i++) {
                TwoSetMachine x = new TwoSetMachine();
                x.set(mode, i, 0x1234);
                for (int other : Check.MODES) {
                    for (int k = 0; k <= 15; k++) {
                        boolean same = i == k && owner(mode, i) == owner(other, k);
                        Check.due("set " + mode + " r" + i + ", get " + other + " r" + k, x.get(other, k), same ? 0x1234 : 0);
                    }
                }
            }
        }
    }

    private static void programCounter() {
        TwoSetMachine x = new TwoSetMachine();
        x.set(Check.USR, 15, 0x1007);
        Check.due("r15 in ARM", x.get(Check.FIQ, 15), 0x1004);
        x.set(Check.SVC, 15, -1);
        Check.due("r15 -1 in ARM", x.get(Check.SVC, 15), -4);
        x.status(0xF3);
        x.set(Check.ABT, 15, 0x1007);
        Check.due("r15 in THUMB", x.get(Check.UND, 15), 0x1006);
        x.set(Check.ABT, 15, 0x1005);
        Check.due("r15 in THUMB", x.get(Check.UND, 15), 0x1004);
        x.set(Check.SVC, 14, 0x1007);
        Check.due("r14 keeps all bits", x.get(Check.SVC, 14), 0x1007);
    }

    private static void wrongInputs() {
        TwoSetMachine x = new TwoSetMachine();
        for (int mode = -1; mode <= 0x40; mode++) {
            boolean known = false;
            for (int one : Check.MODES) {
                known |= one == mode;
            }
            int m = mode;
            Check.dueThrow("get(" + m + ", 0)", () -> x.get(m, 0), known ? Check.NOTHING : Check.ARGUMENT);
            Check.dueThrow("set(" + m + ", 0, 1)", () -> x.set(m, 0, 0), known ? Check.NOTHING : Check.ARGUMENT);
            Check.dueThrow("get(" + m + ", 16)", () -> x.get(m, 16), known ? Check.INDEX : Check.ARGUMENT);
            Check.dueThrow("set(" + m + ", -1, 1)", () -> x.set(m, -1, 1), known ? Check.INDEX : Check.ARGUMENT);
        }
        int[] wrong = {-1, 16, 17, 31, Integer.MAX_VALUE, Integer.MIN_VALUE};
        for (int i : wrong) {
            Check.dueThrow("get r" + i, () -> x.get(Check.SVC, i), Check.INDEX);
            Check.dueThrow("set r" + i, () -> x.set(Check.SVC, i, 1), Check.INDEX);
        }
        Check.dueThrow("a mode with bits beside it", () -> x.get(0x33, 0), Check.ARGUMENT);
    }

    /** An instruction sees the registers of the mode it runs in. MOV r14, r13. */
    private static void currentModeDecides() {
        for (int mode : Check.MODES) {
            TwoSetMachine x = Check.arm(mode, 0xE1A0E00D, 0xE1A0C008);
            for (int other : Check.MODES) {
                x.set(other, 13, 0x100 + other);
                x.set(other, 8, 0x200 + other);
            }
            int sp = x.get(mode, 13);
            int eight = x.get(mode, 8);
            x.step(2);
            Check.due("MOV LR, SP in " + mode, x.get(mode, 14), sp);
            Check.due("MOV r12, r8 in " + mode, x.get(mode, 12), eight);
            for (int other : Check.MODES) {
                if (owner(other, 14) != owner(mode, 14)) {
                    Check.due("LR of " + other, x.get(other, 14), 0);
                }
            }
        }
    }
}
