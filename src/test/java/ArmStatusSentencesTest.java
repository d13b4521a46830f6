import java.util.Map;

/** MRS and MSR, sentence by sentence. */
public final class ArmStatusSentencesTest {
    private static final String PIECE = "MRS";

    public static void main(String[] args) {
        read();
        forms();
        fields();
        toCpsr();
        toSaved();
        Check.end();
    }

    private static void read() {
        Check.sentence(PIECE, "MRS: bits 27 .. 23 are 2, 21 .. 16 are 0x0F, 11 .. 0 are 0: d = CPSR,"
                + " or SPSR (bit 22; in USR and SYS: CPSR).");
        for (int mode : Check.MODES) {
            for (int d = 0; d < 15; d++) {
                TwoSetMachine x = Check.arm(mode | Check.C, 0xE10F0000 | d << 12, 0xE14F0000 | d << 12);
                if (Check.hasSaved(mode)) {
                    x.saved(mode, 0x90000005);
                }
                int cpsr = mode | Check.C | 0xC0;
                Map<String, Integer> before = Check.state(x);
                Check.dueStep("MRS", x);
                Check.due("MRS r" + d + ", CPSR in " + mode, x.get(mode, d), cpsr);
                Check.dueStep("MRS", x);
                Check.due("MRS r" + d + ", SPSR in " + mode, x.get(mode, d), Check.hasSaved(mode) ? 0x90000005 : cpsr);
                Check.dueStays("MRS", x, before, "PC", Check.register(mode, d));
            }
        }
        TwoSetMachine x = Check.arm(Check.SVC | Check.C, 0xE10FF000);
        x.step(1);
        Check.due("MRS PC: written with its lowest bits 0", x.get(Check.SVC, 15), 0x200000D0);
        // One bit other: a test without flags.
        for (int bit : new int[] {0, 1, 2, 3, 4, 5, 6, 7, 8, 9, 10, 11, 16, 17, 18, 19, 21, 25}) {
            dueUndefinedWith("no MRS", 0xE10F0000, bit);
            dueUndefinedWith("no MRS", 0xE14F0000, bit);
        }
        // With bit 20 TST PC, r0; with bit 23 ORR r2, PC, r0.
        TwoSetMachine test = Check.with(Check.arm(Check.SVC, 0xE11F2000), Check.SVC, 0, 0, 5);
        Check.dueStep("no MRS with bit 20", test);
        Check.due("no MRS with bit 20: d stays", test.get(Check.SVC, 2), 5);
        TwoSetMachine or = Check.with(Check.arm(Check.SVC, 0xE18F2000), Check.SVC, 1, 0, 5);
        Check.dueStep("no MRS with bit 23", or);
        Check.due("no MRS with bit 23: d", or.get(Check.SVC, 2), 0x209);
    }

    private static void forms() {
        Check.sentence(PIECE, "MSR: bits 27 .. 26 0, 24 .. 23 2, 21 .. 20 2, 15 .. 12 0xF: of m (bit 25 0, 11 .. 4 are 0),"
                + " or a number (bit 25; as of DATA),");
        for (int m = 0; m < 15; m++) {
            TwoSetMachine x = Check.arm(Check.SVC, 0xE128F000 | m);
            x.set(Check.SVC, m, 0x60000000);
            Check.dueStep("MSR", x);
            Check.due("MSR of r" + m, x.count(7), 0x600000D3);
        }
        TwoSetMachine pc = new TwoSetMachine();
        pc.poke(8, 0xE121F00F);
        pc.set(Check.SVC, 15, 8);
        Check.dueStep("MSR of r15", pc);
        Check.due("MSR of r15: address + 8 is 0x10", pc.count(7), 0x10);
        // #0x2F, #0xFF000000, #0xF0000000, #0x06000000, #0xC000003F
        int[] numbers = {0x2F, 0x4FF, 0x20F, 0x406, 0x1FF};
        for (int number : numbers) {
            int value = Integer.rotateRight(number & 0xFF, 2 * (number >> 8));
            TwoSetMachine x = Check.arm(Check.SVC, 0xE328F000 | number);
            Check.dueStep("MSR", x);
            Check.due("MSR of the number " + number, x.count(7), value & 0xF0000000 | 0xD3);
        }
        for (int bit : new int[] {4, 5, 6, 7, 8, 9, 10, 11, 12, 13, 14, 15}) {
            dueUndefinedWith("no MSR", 0xE128F000, bit);
            dueUndefinedWith("no MSR", 0xE168F000, bit);
        }
        for (int bit : new int[] {12, 13, 14, 15, 21}) {
            dueUndefinedWith("no MSR of a number", 0xE328F000, bit);
            dueUndefinedWith("no MSR of a number", 0xE368F000, bit);
        }
        // With bit 20 TEQ r8; with bit 23 MOV PC; of r0, and of the number 0xF0000000.
        for (int word : new int[] {0xE128F000, 0xE328F20F}) {
            TwoSetMachine test = Check.with(Check.arm(Check.SVC | Check.C | Check.V, word | 1 << 20), Check.SVC, 0xF0000000);
            Check.dueStep("no MSR with bit 20", test);
            Check.due("no MSR with bit 20: flags of TEQ", test.count(7), Check.N | Check.C | Check.V | 0xD3);
            TwoSetMachine move = Check.with(Check.arm(Check.SVC, word | 1 << 23), Check.SVC, 0xF0000000);
            Check.dueStep("no MSR with bit 23", move);
            Check.due("no MSR with bit 23: PC", move.get(Check.SVC, 15), 0xF0000000);
            Check.due("no MSR with bit 23: CPSR stays", move.count(7), 0xD3);
        }
    }

    private static void dueUndefinedWith(String what, int word, int bit) {
        Check.dueUndefined(what + " without its bit " + bit, Check.arm(Check.SVC, word ^ 1 << bit));
    }

    private static void fields() {
        Check.sentence(PIECE, "bits 31 .. 28 (with bit 19), and 7 .. 0 (with bit 16), go to CPSR");
        for (int field = 0; field < 16; field++) {
            int mask = ((field & 8) != 0 ? 0xF0000000 : 0) | ((field & 1) != 0 ? 0xFF : 0);
            // Bits 18 and 17 change nothing.
            TwoSetMachine x = Check.with(Check.arm(Check.SVC | Check.Z, 0xE120F000 | field << 16), Check.SVC, 0xBFFFFF12);
            Map<String, Integer> before = Check.state(x);
            Check.dueStep("MSR", x);
            Check.due("MSR with field " + field, x.count(7), (Check.Z | 0xD3) & ~mask | 0xB0000012 & mask);
            Check.dueStays("MSR", x, before, "PC", "CPSR");
        }
        // The new mode counts for what is behind: MSR CPSR_c, #0x11; MOV r8, #1
        TwoSetMachine x = Check.arm(Check.SVC, 0xE321F011, 0xE3A08001);
        x.step(2);
        Check.due("r8 of FIQ", x.get(Check.FIQ, 8), 1);
        Check.due("r8 of SVC", x.get(Check.SVC, 8), 0);
    }

    private static void toCpsr() {
        Check.sentence(PIECE, "(in USR the former alone; T is not written),");
        for (int mode : Check.MODES) {
            for (int to : Check.MODES) {
                // MSR CPSR_fc with T and without I and F
                TwoSetMachine x = Check.with(Check.arm(mode, 0xE129F000), mode, 0x50000020 | to);
                Check.dueStep("MSR", x);
                int want = 0x50000000 | (mode == Check.USR ? 0xD0 : to);
                Check.due("MSR in " + mode + " to " + to, x.count(7), want);
                Check.due("PC", x.get(mode, 15), 0x204);
                // MSR CPSR_c alone
                TwoSetMachine y = Check.with(Check.arm(mode | Check.V, 0xE121F000), mode, 0xE0000060 | to);
                Check.dueStep("MSR", y);
                Check.due("MSR of the latter in " + mode + " to " + to, y.count(7), Check.V | (mode == Check.USR ? 0xD0 : 0x40 | to));
            }
        }
    }

    private static void toSaved() {
        Check.sentence(PIECE, "or SPSR (bit 22; nothing in USR and SYS; T is).");
        for (int mode : Check.MODES) {
            for (int field = 0; field < 16; field++) {
                int mask = ((field & 8) != 0 ? 0xF0000000 : 0) | ((field & 1) != 0 ? 0xFF : 0);
                // A mode that is none is kept; T is written.
                TwoSetMachine x = Check.with(Check.arm(mode | Check.Z, 0xE160F000 | field << 16), mode, 0xBFFFFFA5);
                if (Check.hasSaved(mode)) {
                    x.saved(mode, 0x40000042);
                }
                Map<String, Integer> before = Check.state(x);
                Check.dueStep("MSR", x);
                if (Check.hasSaved(mode)) {
                    Check.dueStays("MSR", x, before, "PC", Check.savedOf(mode));
                    int want = 0x40000042 & ~mask | 0xB00000A5 & mask;
                    Check.due("MSR to SPSR of " + mode + " with field " + field, x.saved(mode, 0), want);
                } else {
                    Check.dueStays("MSR", x, before, "PC");
                }
            }
            // MSR SPSR_fc, #0xF000000F
            TwoSetMachine x = Check.arm(mode, 0xE369F2FF);
            Map<String, Integer> before = Check.state(x);
            Check.dueStep("MSR", x);
            Check.dueStays("MSR of a number", x, before, "PC", Check.savedOf(mode));
            if (Check.hasSaved(mode)) {
                Check.due("MSR of a number to SPSR of " + mode, x.saved(mode, 0), 0xF000000F);
            }
        }
    }
}
