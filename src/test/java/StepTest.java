/** Promise 9: step, its limits, PC and the faults. */
public final class StepTest {
    private static final int NOP = 0xE1A00000;

    public static void main(String[] args) {
        limits();
        programCounter();
        faults();
        fetching();
        faultsDoNothingElse();
        anyWordsEnd();
        Check.end();
    }

    private static void limits() {
        TwoSetMachine x = new TwoSetMachine();
        int[] wrong = {0, -1, 20001, Integer.MAX_VALUE, Integer.MIN_VALUE};
        for (int n : wrong) {
            Check.dueThrow("step(" + n + ")", () -> x.step(n), Check.ARGUMENT);
        }
        Check.due("nothing was done", x.get(Check.SVC, 15), 0);
        Check.due("step(1)", x.step(1), 0);
        Check.due("PC", x.get(Check.SVC, 15), 4);
        Check.due("step(20000)", x.step(20000), 0);
        Check.due("PC", x.get(Check.SVC, 15), 80004);
        TwoSetMachine y = new TwoSetMachine();
        y.poke(8, 0xEF000000);
        y.set(Check.SVC, 15, 8);
        Check.due("nothing but faults", y.step(20000), 20000);
        Check.due("SWI", y.count(1), 20000);
    }

    private static void programCounter() {
        TwoSetMachine x = Check.arm(Check.SVC, NOP, 0x01A00000, 0xE1A0F000, NOP);
        x.set(Check.SVC, 0, 0x20F);
        x.step(1);
        Check.due("goes on", x.get(Check.SVC, 15), 0x204);
        x.step(1);
        Check.due("goes on when the condition is not so", x.get(Check.SVC, 15), 0x208);
        x.step(1);
        Check.due("written with its lowest bits 0", x.get(Check.SVC, 15), 0x20C);
        TwoSetMachine y = Check.thumb(Check.SVC, 0x46C0, 0x4687);
        y.set(Check.SVC, 0, 0x20F);
        y.step(1);
        Check.due("goes on in THUMB", y.get(Check.SVC, 15), 0x202);
        y.step(1);
        Check.due("written in THUMB", y.get(Check.SVC, 15), 0x20E);
    }

    private static void faults() {
        for (int mode : Check.MODES) {
            int status = mode | Check.N | Check.V;
            Check.dueFault("UND", Check.arm(status, 0xE6000010), 0, Check.UND, 4, 0x204);
            Check.dueFault("SWI", Check.arm(status, 0xEF123456), 1, Check.SVC, 8, 0x204);
            Check.dueFault("DABT", Check.arm(status, 0xE51FF000 | 0xFFF), 3, Check.ABT, 0x10, 0x208);
            Check.dueFault("UND in THUMB", Check.thumb(status, 0xDE00), 0, Check.UND, 4, 0x202);
            Check.dueFault("SWI in THUMB", Check.thumb(status, 0xDF01), 1, Check.SVC, 8, 0x202);
            TwoSetMachine x = Check.thumb(status, 0x6800);
            x.set(mode, 0, -4);
            Check.dueFault("DABT in THUMB", x, 3, Check.ABT, 0x10, 0x208);
        }
        TwoSetMachine x = Check.arm(Check.SVC, 0xEF000000);
        x.status(Check.USR);
        x.step(1);
        Check.due("I is set, F stays", x.count(7), 0x93);
    }

    private static void fetching() {
        int[] places = {0x40000, -4, 0x7FFFFFFC, 0x80000000};
        for (int place : places) {
            TwoSetMachine x = new TwoSetMachine();
            x.set(Check.SVC, 15, place);
            Check.dueFault("PABT at " + place, x, 2, Check.ABT, 0x0C, place + 4);
            x.status(0xF3);
            x.set(Check.SVC, 15, place + 2);
            Check.dueFault("PABT in THUMB at " + place, x, 2, Check.ABT, 0x0C, place + 6);
        }
        TwoSetMachine x = new TwoSetMachine();
        x.poke(0x3FFFC, NOP);
        x.set(Check.SVC, 15, 0x3FFFC);
        Check.dueStep("the last word", x);
        Check.dueFault("behind the last word", x, 2, Check.ABT, 0x0C, 0x40004);
        x.status(0xF3);
        x.poke(0x3FFFC, 0x46C046C0);
        x.set(Check.SVC, 15, 0x3FFFE);
        Check.dueStep("the last half", x);
        Check.dueFault("behind the last half", x, 2, Check.ABT, 0x0C, 0x40004);
    }

    private static void faultsDoNothingElse() {
        // LDR r1, [r0], #4 without memory; then the same with flags of a TST that is UND.
        TwoSetMachine x = Check.arm(Check.SVC, 0xE4901004, 0xE1100001 & ~0x00100000);
        x.set(Check.SVC, 0, 0x40000);
        x.set(Check.SVC, 1, 77);
        Check.dueDataAbort("LDR", x);
        Check.due("n stays", x.get(Check.SVC, 0), 0x40000);
        Check.due("d stays", x.get(Check.SVC, 1), 77);
        x.status(0xD3);
        x.set(Check.SVC, 15, 0x204);
        Check.dueUndefined("TST without flags", x);
    }

    /** No word of memory may make a call throw, or leave CPSR or PC in a form that is not there. */
    private static void anyWordsEnd() {
        long seed = 12345;
        for (int run = 0; run < 40; run++) {
            TwoSetMachine x = new TwoSetMachine();
            for (int address = 0; address < 1600; address += 4) {
                seed = seed * 6364136223846793005L + 1442695040888963407L;
                x.poke(address, (int) (seed >>> 30) | (run % 2 == 0 ? 0xE0000000 : 0));
            }
            x.line(run % 3 == 0 ? 0 : 1, true);
            x.status((int) (seed >>> 20) & 0xF0000020 | Check.MODES[run % 7]);
            int faults = x.step(20000);
            Check.due("faults within steps", faults >= 0 && faults <= 20000, true);
            int cpsr = x.count(7);
            Check.due("bits 27 .. 8", cpsr & 0x0FFFFF00, 0);
            Check.dueThrow("the mode is one", () -> x.get(cpsr & 0x1F, 0), Check.NOTHING);
            Check.due("PC is even", x.get(Check.SVC, 15) & ((cpsr & 0x20) != 0 ? 1 : 3), 0);
        }
    }
}
