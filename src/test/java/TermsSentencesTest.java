import java.util.Map;

/** Terms, sentence by sentence: memory, registers, CPSR, modes and the SPSRs. */
public final class TermsSentencesTest {
    private static final String PIECE = "MEMORY";

    public static void main(String[] args) {
        memory();
        registers();
        cpsr();
        modes();
        banks();
        saved();
        savedBecomesCpsr();
        modeStays();
        bitsNeverWritten();
        Check.end();
    }

    private static void memory() {
        Check.sentence(PIECE, "MEMORY has the addresses 0 .. 262143 (numbers with 0x are hexadecimal), bytes,"
                + " the lowest byte of a word first.");
        // LDRB r2, [r1]; STRB r3, [r1]
        for (int address : new int[] {0, 1, 2, 3, 0x1FFFF, 0x20000, 262140, 262141, 262142, 262143}) {
            TwoSetMachine x = Check.with(Check.arm(Check.SVC, 0xE5D12000, 0xE5C13000), Check.SVC, 0, address, 0, 0xEE);
            int place = 8 * (address & 3);
            x.poke(address & ~3, 0x44332211);
            Check.dueStep("LDRB at " + address, x);
            Check.due("byte " + address, x.get(Check.SVC, 2), 0x44332211 >>> place & 0xFF);
            Check.dueStep("STRB at " + address, x);
            Check.due("word of byte " + address, x.peek(address & ~3), 0x44332211 & ~(0xFF << place) | 0xEE << place);
        }
        for (int address : new int[] {262144, 262145, -1, -262144, Integer.MIN_VALUE, Integer.MAX_VALUE}) {
            Check.dueDataAbort("LDRB at " + address, Check.with(Check.arm(Check.SVC, 0xE5D12000), Check.SVC, 0, address));
            Check.dueDataAbort("STRB at " + address, Check.with(Check.arm(Check.SVC, 0xE5C12000), Check.SVC, 0, address));
        }
    }

    private static void registers() {
        Check.sentence(PIECE, "REGISTERS r0 .. r15 (r13 SP, r14 LR, r15 PC);");
        TwoSetMachine x = new TwoSetMachine();
        for (int i = 0; i < 16; i++) {
            x.set(Check.USR, i, 4 * i + 4);
        }
        for (int i = 0; i < 16; i++) {
            Check.due("r" + i, x.get(Check.USR, i), 4 * i + 4);
        }
        TwoSetMachine y = Check.arm(Check.SVC, 0xEB000002);
        y.step(1);
        Check.due("LR is r14: BL", y.get(Check.SVC, 14), 0x204);
        Check.due("PC is r15: BL", y.get(Check.SVC, 15), 0x210);
        TwoSetMachine z = Check.thumb(Check.SVC, 0xB001);
        z.step(1);
        Check.due("SP is r13: ADD SP, #4", z.get(Check.SVC, 13), 4);
    }

    private static void cpsr() {
        Check.sentence(PIECE, "CPSR: N bit 31, Z 30, C 29, V 28, I 7, F 6, T 5, MODE 4 .. 0; other bits are 0.");
        // MOVEQ, MOVCS, MOVMI, MOVVS r0, #1
        int[] words = {0x43A00001, 0x03A00001, 0x23A00001, 0x63A00001};
        for (int k = 0; k < 4; k++) {
            for (int bit = 28; bit < 32; bit++) {
                TwoSetMachine x = Check.arm(Check.SVC | 1 << bit, words[k]);
                x.step(1);
                Check.due("flag " + "NZCV".charAt(k) + " with bit " + bit, x.get(Check.SVC, 0), bit == 31 - k ? 1 : 0);
            }
        }
        for (int bit = 5; bit < 8; bit++) {
            TwoSetMachine x = Check.arm(Check.SVC, 0xE3A00001);
            x.status(Check.SVC | 1 << bit);
            x.line(0, true);
            x.step(1);
            Check.due("IRQ with bit " + bit, x.count(4), bit == 7 ? 0 : 1);
            TwoSetMachine y = Check.arm(Check.SVC, 0xE3A00001);
            y.status(Check.SVC | 1 << bit);
            y.line(1, true);
            y.step(1);
            Check.due("FIQ with bit " + bit, y.count(5), bit == 6 ? 0 : 1);
            TwoSetMachine z = Check.arm(Check.SVC, 0xE3A00001);
            z.status(Check.SVC | 1 << bit);
            z.step(1);
            Check.due("PC with bit " + bit, z.get(Check.SVC, 15), bit == 5 ? 0x202 : 0x204);
        }
        TwoSetMachine x = new TwoSetMachine();
        for (int bit = 8; bit < 28; bit++) {
            x.status(1 << bit | 0x1F);
            Check.due("bit " + bit + " is 0", x.count(7), 0x1F);
        }
    }

    private static void modes() {
        Check.sentence(PIECE, "MODES: 0x10 USR, 0x11 FIQ, 0x12 IRQ, 0x13 SVC, 0x17 ABT, 0x1B UND, 0x1F SYS.");
        TwoSetMachine x = new TwoSetMachine();
        for (int number = 0; number < 64; number++) {
            int mode = number;
            boolean there = number >= 0x10 && number <= 0x13 || number == 0x17 || number == 0x1B || number == 0x1F;
            Check.dueThrow("get(" + mode + ", 0)", () -> x.get(mode, 0), there ? Check.NOTHING : Check.ARGUMENT);
            if (number < 32) {
                x.status(0x13);
                x.status(number);
                Check.due("status(" + number + ")", x.count(7), there ? number : 0x13);
            }
        }
        // Which fault leads to which: the names behind the numbers.
        int[] words = {0xE6000010, 0xEF000000, 0xE59F0FFC};
        int[] to = {0x1B, 0x13, 0x17};
        for (int k = 0; k < 3; k++) {
            TwoSetMachine y = Check.arm(Check.SYS, words[k]);
            y.set(Check.SYS, 15, k == 2 ? 0x3FFFC : 0x200);
            y.poke(0x3FFFC, words[2]);
            y.step(1);
            Check.due("mode of " + Integer.toHexString(words[k]), y.count(7) & 0x1F, to[k]);
        }
        for (int line = 0; line < 2; line++) {
            TwoSetMachine y = new TwoSetMachine();
            y.status(Check.USR);
            y.line(line, true);
            y.step(1);
            Check.due("mode of line " + line, y.count(7) & 0x1F, line == 0 ? 0x12 : 0x11);
        }
    }

    private static void banks() {
        Check.sentence(PIECE, "FIQ has r8 .. r14 of its own, IRQ, SVC, ABT and UND r13 and r14; USR and SYS have the rest.");
        for (int mode : Check.MODES) {
            for (int i = 0; i < 16; i++) {
                TwoSetMachine x = new TwoSetMachine();
                x.set(mode, i, 0x1234);
                for (int other : Check.MODES) {
                    boolean same = owner(mode, i) == owner(other, i);
                    Check.due("set r" + i + " of " + mode + ", get of " + other, x.get(other, i), same ? 0x1234 : 0);
                }
            }
        }
        // MOV r8, #8; MOV r12, #12; MOV r13, #13; MOV r14, #14 in each mode.
        for (int mode : Check.MODES) {
            TwoSetMachine x = Check.arm(mode, 0xE3A08008, 0xE3A0C00C, 0xE3A0D00D, 0xE3A0E00E);
            x.step(4);
            for (int other : Check.MODES) {
                for (int i : new int[] {8, 12, 13, 14}) {
                    boolean same = owner(mode, i) == owner(other, i);
                    Check.due("MOV r" + i + " in " + mode + ", get of " + other, x.get(other, i), same ? i : 0);
                }
            }
        }
    }

    private static int owner(int mode, int i) {
        boolean fast = mode == 0x11 && i >= 8 && i <= 14;
        boolean other = (mode == 0x12 || mode == 0x13 || mode == 0x17 || mode == 0x1B) && (i == 13 || i == 14);
        return fast || other ? mode : 0x10;
    }

    private static void saved() {
        Check.sentence(PIECE, "These five have an SPSR, too: it keeps bits 31 .. 28 and 7 .. 0 of what comes there (others are 0),"
                + " also a MODE that is none;");
        for (int mode : new int[] {0x11, 0x12, 0x13, 0x17, 0x1B}) {
            TwoSetMachine x = new TwoSetMachine();
            for (int bit = 0; bit < 32; bit++) {
                x.saved(mode, 1 << bit);
                Check.due("bit " + bit + " of " + mode, x.saved(mode, 0), bit < 8 || bit > 27 ? 1 << bit : 0);
            }
            for (int number = 0; number < 32; number++) {
                x.saved(mode, number);
                Check.due("MODE " + number + " of " + mode, x.saved(mode, -1), number);
            }
            for (int other : new int[] {0x11, 0x12, 0x13, 0x17, 0x1B}) {
                Check.due("SPSR of " + other, x.saved(other, 0), other == mode ? 0xF00000FF : 0);
            }
            // MSR SPSR_fc, r0
            TwoSetMachine y = Check.with(Check.arm(mode, 0xE169F000), mode, 0x9FFFFF64);
            y.step(1);
            Check.due("MSR to SPSR of " + mode, y.saved(mode, 0), 0x90000064);
        }
    }

    private static void savedBecomesCpsr() {
        Check.sentence(PIECE, "when it becomes CPSR with such a one, the mode stays.");
        for (int mode : new int[] {0x11, 0x12, 0x13, 0x17, 0x1B}) {
            for (int number = 0; number < 32; number++) {
                int want = 0x50000060 | (Check.isMode(number) ? number : mode);
                // MOVS PC, r0
                TwoSetMachine x = Check.with(Check.arm(mode, 0xE1B0F000), mode, 0x1003);
                x.saved(mode, 0x50000060 | number);
                Check.dueStep("MOVS PC", x);
                Check.due("MOVS PC from " + mode + " with MODE " + number, x.count(7), want);
                Check.due("PC by the new T", x.get(mode, 15), 0x1002);
                Check.due("SPSR stays", x.saved(mode, 0), 0x50000060 | number);
                // LDMIA r0, {r15}^
                TwoSetMachine y = Check.with(Check.arm(mode, 0xE8D08000), mode, 0x800);
                y.poke(0x800, 0x1003);
                y.saved(mode, 0x50000060 | number);
                Check.dueStep("LDM with r15", y);
                Check.due("LDM from " + mode + " with MODE " + number, y.count(7), want);
                Check.due("PC by the new T", y.get(mode, 15), 0x1002);
            }
        }
    }

    private static void modeStays() {
        Check.sentence("When CPSR", "When CPSR is written with a mode that is none of these, the mode stays.");
        for (int mode : Check.MODES) {
            for (int number = 0; number < 32; number++) {
                if (!Check.isMode(number)) {
                    TwoSetMachine x = Check.with(Check.arm(mode, 0xE129F000), mode, 0xA0000040 | number);
                    Check.dueStep("MSR CPSR_fc", x);
                    int want = mode == Check.USR ? 0xA00000D0 : 0xA0000040 | mode;
                    Check.due("MSR in " + mode + " with MODE " + number, x.count(7), want);
                    x.status(0x20 | number);
                    Check.due("status in " + mode + " with MODE " + number, x.count(7), 0x20 | mode);
                }
            }
        }
    }

    private static void bitsNeverWritten() {
        Check.sentence("When CPSR", "Bits 27 .. 8 are never written.");
        for (int mode : Check.MODES) {
            // MSR CPSR_fsxc, r0; MSR CPSR_fsxc, #0x0FF00000: bits 18 and 17 are not asked.
            TwoSetMachine x = Check.with(Check.arm(mode, 0xE12FF000, 0xE32FF6FF), mode, 0x5FFFFFC0 | mode);
            x.step(1);
            Check.due("MSR of a register in " + mode, x.count(7), 0x500000C0 | mode);
            x.step(1);
            Check.due("MSR of a number in " + mode, x.count(7), mode == Check.USR ? 0xD0 : mode);
            TwoSetMachine y = new TwoSetMachine();
            y.status(0x0FFFFF00 | mode);
            Check.due("status in " + mode, y.count(7), mode);
            if (Check.hasSaved(mode)) {
                Map<String, Integer> before = Check.state(y);
                y.saved(mode, 0x0FFFFF00);
                Check.dueStays("saved", y, before);
            }
        }
    }
}
