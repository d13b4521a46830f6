/** Promises 6 and 7: status and saved. */
public final class StatusTest {
    private static final int[] WITH_SPSR = {Check.FIQ, Check.IRQ, Check.SVC, Check.ABT, Check.UND};

    public static void main(String[] args) {
        allBits();
        modesThatAreNone();
        programCounter();
        savedKeeps();
        savedWrong();
        Check.end();
    }

    private static void allBits() {
        TwoSetMachine x = new TwoSetMachine();
        Check.due("the first one", x.status(-1), 0xD3);
        Check.due("all bits, SYS", x.status(0x10), 0xF00000FF);
        Check.due("USR", x.status(0x0FFFFF11), 0x10);
        Check.due("bits 27 .. 8 are 0", x.status(0xA0000092), 0x11);
        Check.due("flags", x.count(7), 0xA0000092);
    }

    private static void modesThatAreNone() {
        for (int mode = 0; mode < 32; mode++) {
            TwoSetMachine x = new TwoSetMachine();
            x.status(0x40000000 | mode);
            boolean known = false;
            for (int one : Check.MODES) {
                known |= one == mode;
            }
            Check.due("status with mode " + mode, x.count(7), 0x40000000 | (known ? mode : 0x13));
        }
    }

    private static void programCounter() {
        TwoSetMachine x = new TwoSetMachine();
        x.status(0xF3);
        x.set(Check.SVC, 15, 0x106);
        x.status(0xF3);
        Check.due("T stays", x.get(Check.SVC, 15), 0x106);
        x.status(0xD3);
        Check.due("T goes", x.get(Check.SVC, 15), 0x104);
        x.status(0xF3);
        Check.due("T comes", x.get(Check.SVC, 15), 0x104);
    }

    private static void savedKeeps() {
        for (int mode : WITH_SPSR) {
            TwoSetMachine x = new TwoSetMachine();
            Check.due("SPSR at first", x.saved(mode, -1), 0);
            Check.due("SPSR of all bits", x.saved(mode, 0x0FFFFF00), 0xF00000FF);
            Check.due("SPSR of the other bits", x.saved(mode, 0x50000020), 0);
            Check.due("SPSR with a mode that is none", x.saved(mode, 1), 0x50000020);
            for (int other : WITH_SPSR) {
                Check.due("SPSR of " + other, x.saved(other, 0), other == mode ? 1 : 0);
            }
            Check.due("CPSR stays", x.count(7), 0xD3);
        }
    }

    private static void savedWrong() {
        TwoSetMachine x = new TwoSetMachine();
        int[] without = {Check.USR, Check.SYS, 0, 0x14, 0x20, 0x33, -1, Integer.MIN_VALUE, Integer.MAX_VALUE};
        for (int mode : without) {
            Check.dueThrow("saved(" + mode + ")", () -> x.saved(mode, 1), Check.ARGUMENT);
        }
    }
}
