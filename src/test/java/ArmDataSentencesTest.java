import java.util.Map;

/** DATA, sentence by sentence. */
public final class ArmDataSentencesTest {
    private static final String PIECE = "DATA";
    private static final int[] VALUES = {0, 1, -1, 5, Integer.MIN_VALUE, Integer.MAX_VALUE, 0x0F0F00FF};

    public static void main(String[] args) {
        lowerHalf();
        tests();
        upperHalf();
        ofNumber();
        shiftedByNumber();
        shiftedByRegister();
        programCounterReadLate();
        flags();
        restoring();
        nothingIsSet();
        testsWithoutFlags();
        bitsSevenAndFour();
        Check.end();
    }

    private static int result(int operation, int n, int o, int c) {
        switch (operation) {
            case 0: case 8: return n & o;
            case 1: case 9: return n ^ o;
            case 2: case 10: return n - o;
            case 3: return o - n;
            case 4: case 11: return n + o;
            case 5: return n + o + c;
            case 6: return n - o - 1 + c;
            case 7: return o - n - 1 + c;
            case 12: return n | o;
            case 13: return o;
            case 14: return n & ~o;
            default: return ~o;
        }
    }

    /** OP r0, r1, r2 without flags, with C 0 and 1; d alone is written. */
    private static void dueResults(int operation) {
        for (int n : VALUES) {
            for (int o : VALUES) {
                for (int c = 0; c < 2; c++) {
                    int status = Check.SVC | Check.N | Check.V | (c == 1 ? Check.C : 0);
                    TwoSetMachine x = Check.with(Check.arm(status, 0xE0010002 | operation << 21), Check.SVC, 77, n, o);
                    String what = "operation " + operation + " of " + n + " and " + o + " with C " + c;
                    Map<String, Integer> before = Check.state(x);
                    Check.dueStep(what, x);
                    Check.due(what, x.get(Check.SVC, 0), result(operation, n, o, c));
                    Check.dueStays(what, x, before, "PC", Check.register(Check.SVC, 0));
                }
            }
        }
    }

    private static void lowerHalf() {
        Check.sentence(PIECE, "DATA: bits 27 .. 26 are 0: d gets, by bits 24 .. 21: 0 AND n and o; 1 EOR; 2 SUB n - o; 3 RSB o - n; 4 ADD;"
                + " 5 ADC n + o + C; 6 SBC n - o - 1 + C; 7 RSC o - n - 1 + C;");
        for (int operation = 0; operation < 8; operation++) {
            dueResults(operation);
        }
    }

    private static void tests() {
        Check.sentence(PIECE, "8 TST (as AND), 9 TEQ (EOR), 10 CMP (SUB), 11 CMN (ADD): flags alone;");
        int[] as = {0, 1, 2, 4};
        for (int operation = 8; operation < 12; operation++) {
            for (int n : VALUES) {
                for (int o : VALUES) {
                    for (int d = 0; d < 16; d += 5) {
                        // OP n, o with any d; and the one that it is like, with flags.
                        TwoSetMachine x = Check.with(Check.arm(Check.SVC | Check.V, 0xE0110002 | operation << 21 | d << 12), Check.SVC, 77, n, o);
                        TwoSetMachine y = Check.with(Check.arm(Check.SVC | Check.V, 0xE0110002 | as[operation - 8] << 21), Check.SVC, 77, n, o);
                        Map<String, Integer> before = Check.state(x);
                        String what = "operation " + operation + " of " + n + " and " + o + " with d " + d;
                        Check.dueStep(what, x);
                        Check.dueStep(what, y);
                        Check.due(what, x.count(7), y.count(7));
                        Check.due(what + ": PC", x.get(Check.SVC, 15), 0x204);
                        Check.dueStays(what, x, before, "PC", "CPSR");
                    }
                }
            }
        }
        // With d as r15 they are no return, whatever SPSR has.
        for (int operation = 8; operation < 12; operation++) {
            TwoSetMachine x = Check.with(Check.arm(Check.SVC, 0xE011F002 | operation << 21), Check.SVC, 77, -1, -1);
            x.saved(Check.SVC, 0x10);
            x.step(1);
            Check.due("mode of operation " + operation, x.count(7) & 0xFF, 0xD3);
        }
    }

    private static void upperHalf() {
        Check.sentence(PIECE, "12 ORR; 13 MOV o; 14 BIC n and not o; 15 MVN not o.");
        for (int operation = 12; operation < 16; operation++) {
            dueResults(operation);
        }
    }

    private static void ofNumber() {
        Check.sentence(PIECE, "With bit 25 o is bits 7 .. 0 turned right by twice bits 11 .. 8 (C is bit 31 of it, unless these are 0);");
        for (int turn = 0; turn < 16; turn++) {
            for (int number : new int[] {0, 1, 2, 3, 0x80, 0xFF, 0x5A}) {
                for (int c = 0; c < 2; c++) {
                    int status = Check.SVC | (c == 1 ? Check.C : 0);
                    TwoSetMachine x = Check.arm(status, 0xE3B00000 | turn << 8 | number);
                    int want = Integer.rotateRight(number, 2 * turn);
                    String what = "MOVS r0, " + number + " turned by " + 2 * turn;
                    Check.dueStep(what, x);
                    Check.due(what, x.get(Check.SVC, 0), want);
                    int carry = turn == 0 ? c : want >>> 31;
                    Check.due(what + " with C " + c, x.count(7) >>> 29 & 1, carry);
                }
            }
        }
        // ADC r0, r1, #number: C as it was, not that of the turning.
        TwoSetMachine x = Check.arm(Check.SVC, 0xE2B10102);
        x.step(1);
        Check.due("ADCS r0, r1, #0x80000000", x.get(Check.SVC, 0), 0x80000000);
        Check.due("C is of the sum", x.count(7), Check.N | 0xD3);
    }

    private static void shiftedByNumber() {
        Check.sentence(PIECE, "else m shifted by (6 .. 5) bits 11 .. 7 (bit 4 is 0),");
        int value = 0x96A5C3E1;
        for (int n = 1; n < 32; n++) {
            int[] want = {value << n, value >>> n, value >> n, Integer.rotateRight(value, n)};
            int[] carry = {value >>> 32 - n & 1, value >>> n - 1 & 1, value >>> n - 1 & 1, want[3] >>> 31};
            for (int kind = 0; kind < 4; kind++) {
                TwoSetMachine x = Check.with(Check.arm(Check.SVC, 0xE1B00001 | n << 7 | kind << 5), Check.SVC, 0, value);
                Check.dueStep("kind " + kind, x);
                Check.due("kind " + kind + " by " + n, x.get(Check.SVC, 0), want[kind]);
                Check.due("C of kind " + kind + " by " + n, x.count(7) >>> 29 & 1, carry[kind]);
            }
        }
    }

    private static void shiftedByRegister() {
        Check.sentence(PIECE, "or (bit 4; bit 7 is 0) the lowest byte of s;");
        for (int s : new int[] {0x100, 0x101, 0xFFFFFF02, 0x7F00001F, 0x120, 0xABCD21FF}) {
            int n = s & 0xFF;
            TwoSetMachine x = Check.with(Check.arm(Check.SVC | Check.C, 0xE1B00211), Check.SVC, 0, 0x80000003, s);
            Check.dueStep("LSL", x);
            Check.due("LSL by " + s, x.get(Check.SVC, 0), n > 31 ? 0 : 0x80000003 << n);
            Check.due("s stays", x.get(Check.SVC, 2), s);
            TwoSetMachine y = Check.with(Check.arm(Check.SVC | Check.C, 0xE1B00251), Check.SVC, 0, 0x80000003, s);
            Check.dueStep("ASR", y);
            Check.due("ASR by " + s, y.get(Check.SVC, 0), 0x80000003 >> (n > 31 ? 31 : n));
        }
        // s may be m, and d: MOV r1, r1, LSL r1
        TwoSetMachine x = Check.with(Check.arm(Check.SVC, 0xE1A01111), Check.SVC, 0, 3);
        x.step(1);
        Check.due("MOV r1, r1, LSL r1", x.get(Check.SVC, 1), 24);
    }

    private static void programCounterReadLate() {
        Check.sentence(PIECE, "then r15 is read as the address plus 12.");
        // ADD r0, PC, r1, LSL r2; ADD r0, r1, PC, LSL r2; MOV r0, r3, LSL PC
        TwoSetMachine x = Check.with(Check.arm(Check.SVC, 0xE08F0211, 0xE081021F, 0xE1A00F13), Check.SVC, 0, 0, 0, 1);
        x.step(1);
        Check.due("n as r15", x.get(Check.SVC, 0), 0x20C);
        x.step(1);
        Check.due("m as r15", x.get(Check.SVC, 0), 0x210);
        x.step(1);
        Check.due("s as r15, its lowest byte 0x14", x.get(Check.SVC, 0), 1 << 0x14);
        // Shifted by a number, or a number itself: plus 8.
        TwoSetMachine y = Check.arm(Check.SVC, 0xE08F0081, 0xE081008F, 0xE28F0000);
        y.step(1);
        Check.due("n as r15 by a number", y.get(Check.SVC, 0), 0x208);
        y.step(1);
        Check.due("m as r15 by a number", y.get(Check.SVC, 0), 2 * 0x20C);
        y.step(1);
        Check.due("n as r15 with a number", y.get(Check.SVC, 0), 0x210);
    }

    private static void flags() {
        Check.sentence(PIECE, "With bit 20 flags are set: N, Z, and C of the shift (0, 1, 8, 9, 12 to 15), or C, V of the sum;");
        for (int operation = 0; operation < 16; operation++) {
            boolean logic = operation < 2 || operation == 8 || operation == 9 || operation > 11;
            for (int bits = 0; bits < 16; bits++) {
                // OPs r0, r1, r2, LSL #1: C of the shift is 1, that of these sums is 0, V of them 0.
                TwoSetMachine x = Check.with(Check.arm(Check.SVC | bits << 28, 0xE0110082 | operation << 21), Check.SVC, 0, 0x20, 0x80000008);
                String what = "operation " + operation + " with flags " + bits;
                int c = bits >> 1 & 1;
                Check.dueStep(what, x);
                int value = result(operation, 0x20, 0x10, c);
                int want = (value < 0 ? Check.N : 0) | (value == 0 ? Check.Z : 0);
                if (logic) {
                    want |= Check.C | bits << 28 & Check.V;
                } else if (operation == 2 || operation == 6 || operation == 10) {
                    want |= Check.C;
                }
                Check.due(what, x.count(7), want | 0xD3);
            }
        }
        // C of the shift is 0, C of the sum is 1: ADDS r0, r1, r2, LSL #1
        TwoSetMachine x = Check.with(Check.arm(Check.SVC, 0xE0910082), Check.SVC, 0, -1, 1);
        x.step(1);
        Check.due("C of the sum", x.count(7), Check.C | 0xD3);
    }

    private static void restoring() {
        Check.sentence(PIECE, "but when d is r15, and not with 8 to 11, CPSR is SPSR instead");
        for (int mode : Check.MODES) {
            for (int operation = 0; operation < 16; operation++) {
                boolean test = operation >= 8 && operation < 12;
                if (Check.hasSaved(mode)) {
                    // OPs PC, r1, r2: SPSR instead of the flags of the result.
                    TwoSetMachine x = Check.with(Check.arm(mode | Check.Z, 0xE011F002 | operation << 21), mode, 0, 0x1000, 0);
                    x.saved(mode, 0x3000009F);
                    Map<String, Integer> before = Check.state(x);
                    String what = "operation " + operation + " in " + mode;
                    Check.dueStep(what, x);
                    Check.due(what, x.count(7) & 0xFF, test ? 0xC0 | mode : 0x9F);
                    if (!test) {
                        Check.due(what + ": flags", x.count(7), 0x3000009F);
                    }
                    Check.dueStays(what, x, before, "PC", "CPSR");
                }
            }
        }
    }

    private static void nothingIsSet() {
        Check.sentence(PIECE, "(in USR and SYS nothing is set), ahead of PC.");
        for (int mode : new int[] {Check.USR, Check.SYS}) {
            for (int bits = 0; bits < 16; bits++) {
                // MOVS PC, r1 of a negative number, and of 0
                for (int to : new int[] {0x80001003, 0}) {
                    TwoSetMachine x = Check.with(Check.arm(mode | bits << 28, 0xE1B0F001), mode, 0, to);
                    Map<String, Integer> before = Check.state(x);
                    Check.dueStep("MOVS PC", x);
                    Check.due("PC in " + mode, x.get(mode, 15), to & ~3);
                    Check.dueStays("MOVS PC", x, before, "PC");
                }
            }
        }
        // Ahead of PC: its lowest bits go by the T that has come.
        for (int t = 0; t <= 0x20; t += 0x20) {
            for (int low = 0; low < 4; low++) {
                TwoSetMachine x = Check.arm(Check.IRQ, 0xE25EF004);
                x.saved(Check.IRQ, 0x10 | t);
                x.set(Check.IRQ, 14, 0x1004 | low);
                Check.dueStep("SUBS PC, LR, #4", x);
                Check.due("CPSR", x.count(7), 0x10 | t);
                Check.due("PC with T " + t + " and " + low, x.get(Check.USR, 15), 0x1000 | (t == 0 ? 0 : low & 2));
            }
        }
    }

    private static void testsWithoutFlags() {
        Check.sentence(PIECE, "8 to 11 without bit 20,");
        for (int operation = 8; operation < 12; operation++) {
            // By a number, shifted by a number, shifted by a register; d as r15 with a form that is not MSR's.
            for (int form : new int[] {0xE2010002, 0xE0010082, 0xE0010312, 0xE001F082}) {
                TwoSetMachine x = Check.with(Check.arm(Check.SVC | Check.N, form | operation << 21), Check.SVC, 1, 2, 3);
                Check.dueFaultAlone(Integer.toHexString(form | operation << 21), x, 0, Check.UND, 4, 0x204);
            }
        }
    }

    private static void bitsSevenAndFour() {
        Check.sentence(PIECE, "and bits 7 and 4 both 1 without bit 25: UND.");
        // Bits 6 .. 5 are 0 and bits 27 .. 24 are not 0, nor is it SWAP: operations 8 to 15.
        for (int operation = 8; operation < 16; operation++) {
            for (int flags = 0; flags < 2; flags++) {
                for (int m = 0; m < 16; m += 5) {
                    int word = 0xE0013290 | operation << 21 | flags << 20 | m;
                    TwoSetMachine x = Check.with(Check.arm(Check.SVC | Check.N, word), Check.SVC, 1, 0x800, 3);
                    Check.dueFaultAlone(Integer.toHexString(word), x, 0, Check.UND, 4, 0x204);
                }
            }
        }
        TwoSetMachine x = Check.arm(Check.SVC, 0xE3A00090, 0xE3A010F0);
        Check.due("with bit 25 they are part of the number", x.step(2), 0);
        Check.due("MOV r0, #0x90", x.get(Check.SVC, 0), 0x90);
        Check.due("MOV r1, #0xF0", x.get(Check.SVC, 1), 0xF0);
        TwoSetMachine y = Check.with(Check.arm(Check.SVC, 0xE1A00281), Check.SVC, 0, 1);
        Check.dueStep("bit 7 alone", y);
        Check.due("MOV r0, r1, LSL #5", y.get(Check.SVC, 0), 32);
    }
}
