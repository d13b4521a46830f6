import java.util.Map;

/** THUMB INSTRUCTIONS that compute, sentence by sentence. */
public final class ThumbDataSentencesTest {
    private static final String SHIFTS = "15 .. 13 0";
    private static final String REGISTERS = "15 .. 10 0x10";
    private static final String ADDRESSES = "15 .. 12 10";
    private static final int[] VALUES = {0, 1, -1, 5, Integer.MIN_VALUE, Integer.MAX_VALUE, 0x0F0F00FF};

    public static void main(String[] args) {
        flagsAsOfArm();
        fields();
        shifted();
        addOrSubtract();
        withNumber();
        ofTwoRegisters();
        shiftsByLowestByte();
        ofAllRegisters();
        exchange();
        addresses();
        stackPointer();
        Check.end();
    }

    /** r0 and the flags behind a THUMB instruction are those behind an ARM instruction, with all flags before. */
    private static void dueAsArm(int half, int word, int r0, int r1) {
        for (int bits = 0; bits < 16; bits++) {
            int status = Check.SVC | bits << 28;
            TwoSetMachine x = Check.with(Check.thumb(status, half), Check.SVC, r0, r1);
            TwoSetMachine y = Check.with(Check.arm(status, word), Check.SVC, r0, r1);
            String what = Integer.toHexString(half) + " of " + r0 + " and " + r1 + " with flags " + bits;
            Check.dueStep(what, x);
            Check.dueStep(what, y);
            Check.due(what, x.get(Check.SVC, 0), y.get(Check.SVC, 0));
            Check.due(what + ": r1", x.get(Check.SVC, 1), r1);
            Check.due(what + ": flags", x.count(7), y.count(7) | 0x20);
            Check.due(what + ": PC", x.get(Check.SVC, 15), 0x202);
        }
    }

    private static void flagsAsOfArm() {
        Check.sentence("THUMB INSTRUCTIONS", "THUMB INSTRUCTIONS (registers r0 .. r7 by three bits, bits of 16),"
                + " flags as of the ARM ones that are named, always set if not told otherwise.");
        for (int a : VALUES) {
            for (int b : VALUES) {
                // ADDS r0, r0, r1; ANDS; SBCS; RSBS r0, r1, #0; MOVS r0, #7; MULS r0, r1, r0
                dueAsArm(0x1840, 0xE0900001, a, b);
                dueAsArm(0x4008, 0xE0100001, a, b);
                dueAsArm(0x4188, 0xE0D00001, a, b);
                dueAsArm(0x4248, 0xE2710000, a, b);
                dueAsArm(0x2007, 0xE3B00007, a, b);
                dueAsArm(0x4348, 0xE0100091, a, b);
            }
        }
    }

    private static void fields() {
        Check.sentence("THUMB INSTRUCTIONS", "d is bits 2 .. 0, s 5 .. 3, b 10 .. 8 here, n the number:");
        for (int d = 0; d < 8; d++) {
            for (int s = 0; s < 8; s++) {
                // ADD d, s, #5
                TwoSetMachine x = counted(Check.SVC, 0x1D40 | s << 3 | d);
                Map<String, Integer> before = Check.state(x);
                Check.dueStep("ADD", x);
                Check.due("ADD r" + d + ", r" + s + ", #5", x.get(Check.SVC, d), 0x105 + s);
                Check.dueStays("ADD", x, before, "PC", "CPSR", Check.register(Check.SVC, d));
            }
            // MOV b, #99
            TwoSetMachine y = counted(Check.SVC, 0x2063 | d << 8);
            Map<String, Integer> before = Check.state(y);
            Check.dueStep("MOV", y);
            Check.due("MOV r" + d + ", #99", y.get(Check.SVC, d), 99);
            Check.dueStays("MOV", y, before, "PC", "CPSR", Check.register(Check.SVC, d));
        }
    }

    /** r0 .. r14 are 0x100 + i. */
    private static TwoSetMachine counted(int status, int half) {
        TwoSetMachine x = Check.thumb(status, half);
        for (int i = 0; i < 15; i++) {
            x.set(Check.SVC, i, 0x100 + i);
        }
        return x;
    }

    private static void shifted() {
        Check.sentence(SHIFTS, "15 .. 13 0: 12 .. 11 0, 1, 2: d = s shifted LSL, LSR, ASR by 10 .. 6 (0 as in ARM);");
        for (int kind = 0; kind < 3; kind++) {
            for (int n = 0; n < 32; n++) {
                for (int value : new int[] {0x80000001, 0x7FFFFFFE, 0}) {
                    // d = r0, s = r1
                    dueAsArm(kind << 11 | n << 6 | 0x08, 0xE1B00001 | n << 7 | kind << 5, 5, value);
                }
            }
        }
        for (int d = 0; d < 8; d++) {
            for (int s = 0; s < 8; s++) {
                // LSL d, s, #1
                TwoSetMachine x = counted(Check.SVC, 0x0040 | s << 3 | d);
                Map<String, Integer> before = Check.state(x);
                Check.dueStep("LSL", x);
                Check.due("LSL r" + d + ", r" + s + ", #1", x.get(Check.SVC, d), 0x200 + 2 * s);
                Check.dueStays("LSL", x, before, "PC", "CPSR", Check.register(Check.SVC, d));
            }
        }
        // 0 as in ARM: LSL 0, LSR 32, ASR 32, told in numbers.
        int[] want = {0x80000001, 0, -1};
        for (int kind = 0; kind < 3; kind++) {
            TwoSetMachine x = Check.with(Check.thumb(Check.SVC, kind << 11 | 0x08), Check.SVC, 5, 0x80000001);
            Check.dueStep("by 0", x);
            Check.due("kind " + kind + " by 0", x.get(Check.SVC, 0), want[kind]);
            Check.due("C of kind " + kind + " by 0", x.count(7) >>> 29 & 1, kind == 0 ? 0 : 1);
        }
    }

    private static void addOrSubtract() {
        Check.sentence(SHIFTS, "3: d = s + o (bit 9 0), s - o, o being 8 .. 6, a number with bit 10, else a register.");
        for (int a : VALUES) {
            for (int b : VALUES) {
                dueAsArm(0x1840, 0xE0900001, a, b);
                dueAsArm(0x1A40, 0xE0500001, a, b);
                // o = r0, s = r1
                dueAsArm(0x1A08, 0xE0510000, a, b);
            }
            for (int number = 0; number < 8; number++) {
                dueAsArm(0x1C00 | number << 6, 0xE2900000 | number, a, 9);
                dueAsArm(0x1E00 | number << 6, 0xE2500000 | number, a, 9);
            }
        }
        for (int o = 0; o < 8; o++) {
            TwoSetMachine x = counted(Check.SVC, 0x1808 | o << 6);
            Check.dueStep("ADD", x);
            Check.due("ADD r0, r1, r" + o, x.get(Check.SVC, 0), 0x101 + 0x100 + o);
            TwoSetMachine y = counted(Check.SVC, 0x1A08 | o << 6);
            Check.dueStep("SUB", y);
            Check.due("SUB r0, r1, r" + o, y.get(Check.SVC, 0), 1 - o);
        }
    }

    private static void withNumber() {
        Check.sentence(SHIFTS, "1: by 12 .. 11: MOV b, CMP, ADD, SUB of b with 7 .. 0.");
        for (int number : new int[] {0, 1, 127, 128, 255}) {
            for (int a : new int[] {0, 1, 128, 255, -1, Integer.MIN_VALUE, Integer.MAX_VALUE}) {
                dueAsArm(0x2000 | number, 0xE3B00000 | number, a, 9);
                dueAsArm(0x2800 | number, 0xE3500000 | number, a, 9);
                dueAsArm(0x3000 | number, 0xE2900000 | number, a, 9);
                dueAsArm(0x3800 | number, 0xE2500000 | number, a, 9);
            }
        }
        int[] want = {3, 0x107, 0x10A, 0x104};
        for (int kind = 0; kind < 4; kind++) {
            TwoSetMachine x = counted(Check.SVC, 0x2703 | kind << 11);
            Check.dueStep("kind " + kind, x);
            Check.due("kind " + kind + " of r7", x.get(Check.SVC, 7), want[kind]);
        }
    }

    private static void ofTwoRegisters() {
        Check.sentence(REGISTERS, "15 .. 10 0x10: d with s by 9 .. 6: AND EOR LSL LSR ASR ADC SBC ROR TST NEG (d = 0 - s)"
                + " CMP CMN ORR MUL (N and Z) BIC MVN;");
        int[] words = {0xE0100001, 0xE0300001, 0xE1B00110, 0xE1B00130, 0xE1B00150, 0xE0B00001, 0xE0D00001, 0xE1B00170,
            0xE1100001, 0xE2710000, 0xE1500001, 0xE1700001, 0xE1900001, 0xE0100091, 0xE1D00001, 0xE1F00001};
        for (int operation = 0; operation < 16; operation++) {
            for (int a : VALUES) {
                for (int b : VALUES) {
                    dueAsArm(0x4008 | operation << 6, words[operation], a, b);
                }
            }
        }
        for (int d = 0; d < 8; d++) {
            for (int s = 0; s < 8; s++) {
                dueOfRegisters(0x4040, d, s, 0x100 + d ^ 0x100 + s);
                dueOfRegisters(0x4240, d, s, -0x100 - s);
                dueOfRegisters(0x4340, d, s, (0x100 + d) * (0x100 + s));
                dueOfRegisters(0x43C0, d, s, ~(0x100 + s));
            }
        }
        // NEG of the edge: 0x80000000 has no other sign; MUL goes round; C and V stay with MUL.
        TwoSetMachine x = Check.with(Check.thumb(Check.SVC, 0x4248), Check.SVC, 5, Integer.MIN_VALUE);
        Check.dueStep("NEG", x);
        Check.due("NEG of 0x80000000", x.get(Check.SVC, 0), Integer.MIN_VALUE);
        Check.due("flags of NEG", x.count(7), Check.N | Check.V | 0xF3);
        TwoSetMachine y = Check.with(Check.thumb(Check.SVC | Check.C | Check.V, 0x4348), Check.SVC, 0x10000, 0x10000);
        Check.dueStep("MUL", y);
        Check.due("MUL beyond 32 bits", y.get(Check.SVC, 0), 0);
        Check.due("flags of MUL", y.count(7), Check.Z | Check.C | Check.V | 0xF3);
    }

    /** OP d, s: d alone is written. */
    private static void dueOfRegisters(int half, int d, int s, int want) {
        TwoSetMachine x = counted(Check.SVC, half | s << 3 | d);
        Map<String, Integer> before = Check.state(x);
        String what = Integer.toHexString(half) + " of r" + d + ", r" + s;
        Check.dueStep(what, x);
        Check.due(what, x.get(Check.SVC, d), want);
        Check.dueStays(what, x, before, "PC", "CPSR", Check.register(Check.SVC, d));
    }

    private static void shiftsByLowestByte() {
        Check.sentence(REGISTERS, "shifts of d by the lowest byte of s.");
        int[] operations = {2, 3, 4, 7};
        for (int kind = 0; kind < 4; kind++) {
            for (int n : new int[] {0, 1, 31, 32, 33, 64, 255, 0x100, 0x101, 0x120, 0x7FFFFF01, 0xFFFFFF00, -1}) {
                for (int value : new int[] {0x80000001, 0x7FFFFFFE}) {
                    dueAsArm(0x4008 | operations[kind] << 6, 0xE1B00110 | kind << 5, value, n);
                }
            }
        }
        TwoSetMachine x = Check.with(Check.thumb(Check.SVC | Check.C, 0x4088), Check.SVC, 3, 0x100);
        Check.dueStep("LSL by 0x100", x);
        Check.due("LSL by 0x100", x.get(Check.SVC, 0), 3);
        Check.due("C stays", x.count(7), Check.C | 0xF3);
        for (int d = 0; d < 8; d++) {
            for (int s = 0; s < 8; s++) {
                // r1 is 0x101, r2 0x102 and so on: the lowest byte is the number.
                dueOfRegisters(0x4080, d, s, 0x100 + d << s);
            }
        }
        // s is d: LSL r0, r0
        TwoSetMachine y = Check.with(Check.thumb(Check.SVC, 0x4080), Check.SVC, 3);
        Check.dueStep("LSL r0, r0", y);
        Check.due("LSL r0, r0", y.get(Check.SVC, 0), 24);
    }

    private static void ofAllRegisters() {
        Check.sentence(REGISTERS, "0x11: with d of bit 7 too, s of bit 6 (r0 .. r15), by 9 .. 8: ADD, CMP (flags), MOV:"
                + " no flags but CMP's;");
        for (int d = 0; d < 16; d++) {
            for (int s = 0; s < 16; s++) {
                int half = 0x4400 | (d & 8) << 4 | s << 3 | d & 7;
                int left = d == 15 ? 0x204 : 0x100 + d;
                int right = s == 15 ? 0x204 : 0x100 + s;
                for (int bits = 0; bits < 16; bits += 5) {
                    int status = Check.SVC | bits << 28;
                    TwoSetMachine add = counted(status, half);
                    Check.dueStep("ADD", add);
                    Check.due("ADD r" + d + ", r" + s, add.get(Check.SVC, d), left + right & (d == 15 ? ~1 : ~0));
                    Check.due("flags of ADD", add.count(7), status | 0xE0);
                    TwoSetMachine move = counted(status, half | 0x200);
                    Check.dueStep("MOV", move);
                    Check.due("MOV r" + d + ", r" + s, move.get(Check.SVC, d), right & (d == 15 ? ~1 : ~0));
                    Check.due("flags of MOV", move.count(7), status | 0xE0);
                    TwoSetMachine compare = counted(status, half | 0x100);
                    Map<String, Integer> before = Check.state(compare);
                    Check.dueStep("CMP", compare);
                    int flags = (left < right ? Check.N : Check.C) | (left == right ? Check.Z : 0);
                    Check.due("CMP r" + d + ", r" + s, compare.count(7), flags | 0xF3);
                    Check.dueStays("CMP", compare, before, "PC", "CPSR");
                    Check.due("CMP: PC", compare.get(Check.SVC, 15), 0x202);
                }
            }
        }
        // r8 .. r14 are those of the mode: MOV r8, r0 in FIQ
        TwoSetMachine x = Check.with(Check.thumb(Check.FIQ, 0x4680), Check.FIQ, 77);
        Check.dueStep("MOV r8, r0", x);
        Check.due("r8 of FIQ", x.get(Check.FIQ, 8), 77);
        Check.due("r8 of USR", x.get(Check.USR, 8), 0);
    }

    private static void exchange() {
        Check.sentence(REGISTERS, "3: BX s (UND with bit 7).");
        for (int s = 0; s < 16; s++) {
            for (int low = 0; low < 4; low++) {
                // Bits 2 .. 0 are not asked.
                TwoSetMachine x = counted(Check.SVC | Check.N, 0x4700 | s << 3 | low);
                if (s < 15) {
                    x.set(Check.SVC, s, 0x1000 | low);
                    Check.dueStep("BX", x);
                    Check.due("BX r" + s + " with " + low, x.get(Check.SVC, 15), low == 3 ? 0x1002 : 0x1000);
                    Check.due("T of BX with " + low, x.count(7), Check.N | ((low & 1) != 0 ? 0xF3 : 0xD3));
                }
                TwoSetMachine y = counted(Check.SVC, 0x4780 | s << 3 | low);
                Check.dueFaultAlone("BX with bit 7", y, 0, Check.UND, 4, 0x202);
            }
        }
        // BX PC: address plus 4, its lowest two bits 0, from both halves of a word.
        TwoSetMachine x = Check.thumb(Check.SVC, 0x4778, 0x4778);
        Check.dueStep("BX PC", x);
        Check.due("BX PC at 0x200", x.get(Check.SVC, 15), 0x204);
        Check.due("T of BX PC", x.count(7), 0xD3);
        x.status(0xF3);
        x.set(Check.SVC, 15, 0x202);
        Check.dueStep("BX PC", x);
        Check.due("BX PC at 0x202", x.get(Check.SVC, 15), 0x204);
    }

    private static void addresses() {
        Check.sentence(ADDRESSES, "15 .. 12 10: b = SP (bit 11), or address + 4 with its lowest two bits 0, + 4 * 7 .. 0; no flags.");
        for (int number : new int[] {0, 1, 0x80, 0xFF}) {
            for (int b = 0; b < 8; b++) {
                for (int low = 0; low < 4; low += 2) {
                    TwoSetMachine x = Check.thumb(Check.SVC | Check.Z | Check.V, 0xA000 | b << 8 | number, 0xA000 | b << 8 | number);
                    x.set(Check.SVC, 15, 0x200 + low);
                    Check.dueStep("ADD b, PC", x);
                    Check.due("ADD r" + b + ", PC, " + number + " at " + low, x.get(Check.SVC, b), 0x204 + 4 * number);
                    Check.due("no flags", x.count(7), Check.Z | Check.V | 0xF3);
                }
                for (int sp : new int[] {0, 0x803, -4, Integer.MAX_VALUE}) {
                    TwoSetMachine y = Check.thumb(Check.SVC | Check.Z | Check.V, 0xA800 | b << 8 | number);
                    y.set(Check.SVC, 13, sp);
                    Check.dueStep("ADD b, SP", y);
                    Check.due("ADD r" + b + ", SP, " + number, y.get(Check.SVC, b), sp + 4 * number);
                    Check.due("SP stays", y.get(Check.SVC, 13), sp);
                    Check.due("no flags", y.count(7), Check.Z | Check.V | 0xF3);
                }
            }
        }
    }

    private static void stackPointer() {
        Check.sentence(ADDRESSES, "15 .. 8 0xB0: SP + or (bit 7) - 4 * 6 .. 0.");
        for (int number : new int[] {0, 1, 64, 127}) {
            for (int sp : new int[] {0, 3, 0x800, -4, Integer.MIN_VALUE, Integer.MAX_VALUE}) {
                for (int down = 0; down < 2; down++) {
                    TwoSetMachine x = Check.thumb(Check.SVC | Check.Z, 0xB000 | down << 7 | number);
                    x.set(Check.SVC, 13, sp);
                    Map<String, Integer> before = Check.state(x);
                    Check.dueStep("SP", x);
                    Check.due("SP of " + sp + ", bit 7 " + down, x.get(Check.SVC, 13), down == 1 ? sp - 4 * number : sp + 4 * number);
                    Check.dueStays("SP", x, before, "PC", Check.register(Check.SVC, 13));
                }
            }
        }
    }
}
