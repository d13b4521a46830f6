/** A SHIFT and FLAGS, sentence by sentence, in both sets. */
public final class ShiftSentencesTest {
    private static final int LSL = 0;
    private static final int LSR = 1;
    private static final int ASR = 2;
    private static final int ROR = 3;

    /** A C that is to stay is tried as 0 and as 1. */
    private static final int STAYS = -1;

    public static void main(String[] args) {
        left();
        right();
        rightWithSign();
        turned();
        noneByNumber();
        rightByNumber();
        rightWithSignByNumber();
        throughCarry();
        negativeAndZero();
        adding();
        difference();
        Check.end();
    }

    private static void due(int kind, int value, int n, int want, int carry) {
        for (int c = 0; c < 2; c++) {
            int status = Check.SVC | Check.V | (c == 1 ? Check.C : 0);
            String what = "kind " + kind + " of " + value + " by " + n + ", C " + c;
            // MOVS r0, r0, shifted by r1
            TwoSetMachine x = Check.with(Check.arm(status, 0xE1B00110 | kind << 5), Check.SVC, value, n);
            dueShifted(what, x, want, carry == STAYS ? c : carry);
            int[] halves = {0x4088, 0x40C8, 0x4108, 0x41C8};
            TwoSetMachine y = Check.with(Check.thumb(status, halves[kind]), Check.SVC, value, n);
            dueShifted("THUMB " + what, y, want, carry == STAYS ? c : carry);
        }
    }

    private static void dueByNumber(int kind, int value, int n, int want, int carry) {
        for (int c = 0; c < 2; c++) {
            int status = Check.SVC | Check.V | (c == 1 ? Check.C : 0);
            String what = "kind " + kind + " of " + value + " by the number " + n + ", C " + c;
            TwoSetMachine x = Check.with(Check.arm(status, 0xE1B00000 | n << 7 | kind << 5), Check.SVC, value);
            dueShifted(what, x, want, carry == STAYS ? c : carry);
            if (kind != ROR) {
                TwoSetMachine y = Check.with(Check.thumb(status, kind << 11 | n << 6), Check.SVC, value);
                dueShifted("THUMB " + what, y, want, carry == STAYS ? c : carry);
            }
        }
    }

    private static void dueShifted(String what, TwoSetMachine x, int want, int carry) {
        Check.dueStep(what, x);
        Check.due(what, x.get(Check.SVC, 0), want);
        int flags = Check.V | (want < 0 ? Check.N : 0) | (want == 0 ? Check.Z : 0) | (carry == 1 ? Check.C : 0);
        Check.due(what + ": flags", x.count(7) & 0xF0000000, flags);
    }

    private static void left() {
        Check.sentence("A SHIFT", "A SHIFT of a value by n, with the carry C as it was: LSL (0): n 0: as it is, C stays;"
                + " up to 32: C is the last bit that goes out; more: 0, C 0.");
        due(LSL, 0x80000001, 0, 0x80000001, STAYS);
        due(LSL, 0, 0, 0, STAYS);
        due(LSL, 0x80000001, 256, 0x80000001, STAYS);
        due(LSL, 0x80000001, 1, 2, 1);
        due(LSL, 0x40000001, 1, 0x80000002, 0);
        due(LSL, 0x40000001, 2, 4, 1);
        due(LSL, 3, 31, 0x80000000, 1);
        due(LSL, 1, 31, 0x80000000, 0);
        due(LSL, 1, 32, 0, 1);
        due(LSL, 0xFFFFFFFE, 32, 0, 0);
        due(LSL, -1, 33, 0, 0);
        due(LSL, -1, 64, 0, 0);
        due(LSL, -1, 255, 0, 0);
        dueByNumber(LSL, 0x80000001, 1, 2, 1);
        dueByNumber(LSL, 3, 31, 0x80000000, 1);
    }

    private static void right() {
        Check.sentence("A SHIFT", "LSR (1): n 0: as it is, C stays; up to 32: likewise; more: 0, C 0.");
        due(LSR, 0x80000001, 0, 0x80000001, STAYS);
        due(LSR, 0x80000001, 256, 0x80000001, STAYS);
        due(LSR, 0x80000001, 1, 0x40000000, 1);
        due(LSR, 0x80000002, 1, 0x40000001, 0);
        due(LSR, 0xC0000000, 31, 1, 1);
        due(LSR, 0x80000000, 31, 1, 0);
        due(LSR, 0x80000000, 32, 0, 1);
        due(LSR, 0x7FFFFFFF, 32, 0, 0);
        due(LSR, -1, 33, 0, 0);
        due(LSR, -1, 64, 0, 0);
        due(LSR, -1, 255, 0, 0);
        dueByNumber(LSR, 0x80000001, 1, 0x40000000, 1);
        dueByNumber(LSR, 0xC0000000, 31, 1, 1);
    }

    private static void rightWithSign() {
        Check.sentence("A SHIFT", "ASR (2): likewise with the sign; 32 or more: all bits, and C, are the sign.");
        due(ASR, 0x80000001, 0, 0x80000001, STAYS);
        due(ASR, 0x7FFFFFFF, 256, 0x7FFFFFFF, STAYS);
        due(ASR, 0x80000001, 1, 0xC0000000, 1);
        due(ASR, 0x40000000, 1, 0x20000000, 0);
        due(ASR, 0x80000000, 31, -1, 0);
        due(ASR, 0xC0000000, 31, -1, 1);
        due(ASR, 0x40000000, 31, 0, 1);
        for (int n : new int[] {32, 33, 64, 96, 255, 0xFFFFFF20}) {
            due(ASR, 0x80000000, n, -1, 1);
            due(ASR, 0x7FFFFFFF, n, 0, 0);
        }
        dueByNumber(ASR, 0x80000001, 1, 0xC0000000, 1);
        dueByNumber(ASR, 0x80000000, 31, -1, 0);
    }

    private static void turned() {
        Check.sentence("A SHIFT", "ROR (3): n 0: as it is; else turned by n modulo 32, C is bit 31 of what it is then.");
        due(ROR, 0x80000001, 0, 0x80000001, STAYS);
        due(ROR, 0x40000001, 256, 0x40000001, STAYS);
        due(ROR, 1, 1, 0x80000000, 1);
        due(ROR, 2, 1, 1, 0);
        due(ROR, 0x40000000, 31, 0x80000000, 1);
        due(ROR, 0x80000000, 31, 1, 0);
        for (int n : new int[] {32, 64, 96, 224}) {
            due(ROR, 0x80000001, n, 0x80000001, 1);
            due(ROR, 0x40000001, n, 0x40000001, 0);
            due(ROR, 3, n + 1, 0x80000001, 1);
        }
        due(ROR, 0x12345678, 255, 0x2468ACF0, 0);
        dueByNumber(ROR, 1, 1, 0x80000000, 1);
        dueByNumber(ROR, 0x80000000, 31, 1, 0);
    }

    private static void noneByNumber() {
        Check.sentence("A SHIFT", "By a number in the instruction, 0 means: LSL 0;");
        dueByNumber(LSL, 0x80000001, 0, 0x80000001, STAYS);
        dueByNumber(LSL, 0, 0, 0, STAYS);
    }

    private static void rightByNumber() {
        Check.sentence("A SHIFT", "LSR 32;");
        dueByNumber(LSR, 0x80000000, 0, 0, 1);
        dueByNumber(LSR, 0x7FFFFFFF, 0, 0, 0);
        // LDR r0, [r1, r2, LSR #32]: the same in an address.
        TwoSetMachine x = Check.with(Check.arm(Check.SVC, 0xE7910022), Check.SVC, 0, 0x800, -4);
        x.poke(0x800, 77);
        x.step(1);
        Check.due("an address", x.get(Check.SVC, 0), 77);
    }

    private static void rightWithSignByNumber() {
        Check.sentence("A SHIFT", "ASR 32;");
        dueByNumber(ASR, 0x80000000, 0, -1, 1);
        dueByNumber(ASR, 0x7FFFFFFF, 0, 0, 0);
        // LDRB r0, [r1, r2, ASR #32]
        TwoSetMachine x = Check.with(Check.arm(Check.SVC, 0xE7D10042), Check.SVC, 0, 0x801, -4);
        x.poke(0x800, 77);
        x.step(1);
        Check.due("an address", x.get(Check.SVC, 0), 77);
    }

    private static void throughCarry() {
        Check.sentence("A SHIFT", "ROR: RRX: one to the right, C comes into bit 31, bit 0 is the carry.");
        for (int value : new int[] {0, 1, 2, 0x80000000, 0x80000001, -1}) {
            for (int c = 0; c < 2; c++) {
                int status = Check.SVC | Check.V | (c == 1 ? Check.C : 0);
                TwoSetMachine x = Check.with(Check.arm(status, 0xE1B00060), Check.SVC, value);
                dueShifted("RRX of " + value + " with C " + c, x, value >>> 1 | c << 31, value & 1);
                // LDR r0, [r1, r2, RRX] with C: bit 31 of the offset takes that of r1 away; no flags.
                TwoSetMachine y = Check.with(Check.arm(status, 0xE7910062), Check.SVC, 0, c << 31, 0x1001);
                y.poke(0x800, 77);
                Check.dueStep("RRX in an address", y);
                Check.due("RRX in an address with C " + c, y.get(Check.SVC, 0), 77);
                Check.due("no flags", y.count(7), status | 0xC0);
            }
        }
    }

    private static void dueFlags(String what, TwoSetMachine x, int result, int flags) {
        Check.dueStep(what, x);
        Check.due(what, x.get(Check.SVC, 2), result);
        Check.due(what + ": flags", x.count(7) & 0xF0000000, flags);
    }

    private static void negativeAndZero() {
        Check.sentence("FLAGS", "FLAGS: N and Z are those of the result.");
        for (int value : new int[] {0, 1, -1, Integer.MIN_VALUE, Integer.MAX_VALUE}) {
            int flags = (value < 0 ? Check.N : 0) | (value == 0 ? Check.Z : 0);
            for (int before : new int[] {0, Check.N, Check.Z, Check.N | Check.Z}) {
                // MOVS r2, r0; ADDS r2, r0, #0 and MULS r2, r0, r1; the last two leave C and V 0.
                for (int word : new int[] {0xE1B02000, 0xE2902000, 0xE0120190}) {
                    TwoSetMachine x = Check.with(Check.arm(Check.SVC | before, word), Check.SVC, value, 1);
                    dueFlags(Integer.toHexString(word) + " of " + value, x, value, flags);
                }
                TwoSetMachine y = Check.with(Check.thumb(Check.SVC | before, 0x1C02), Check.SVC, value);
                dueFlags("THUMB, of " + value, y, value, flags);
            }
        }
    }

    /** ADDS r2, r0, r1 in both sets. */
    private static void dueSum(int a, int b, int flags) {
        for (int before = 0; before < 16; before++) {
            int status = Check.SVC | before << 28;
            dueFlags(a + " + " + b, Check.with(Check.arm(status, 0xE0902001), Check.SVC, a, b), a + b, flags);
            dueFlags("THUMB " + a + " + " + b, Check.with(Check.thumb(status, 0x1842), Check.SVC, a, b), a + b, flags);
        }
    }

    private static void adding() {
        Check.sentence("FLAGS", "ADDING: C is the carry beyond 32 bits, V that of numbers with sign;");
        dueSum(0, 0, Check.Z);
        dueSum(-1, 1, Check.Z | Check.C);
        dueSum(-1, -1, Check.N | Check.C);
        dueSum(Integer.MAX_VALUE, 0, 0);
        dueSum(Integer.MAX_VALUE, 1, Check.N | Check.V);
        dueSum(Integer.MAX_VALUE, Integer.MAX_VALUE, Check.N | Check.V);
        dueSum(Integer.MIN_VALUE, -1, Check.C | Check.V);
        dueSum(Integer.MIN_VALUE, Integer.MIN_VALUE, Check.Z | Check.C | Check.V);
        dueSum(Integer.MIN_VALUE, Integer.MAX_VALUE, Check.N);
        // ADCS r2, r0, r1 with C: the carry that comes in may be the one too many.
        int[] a = {-1, Integer.MAX_VALUE, -1, 0};
        int[] b = {0, 0, -1, 0};
        int[] flags = {Check.Z | Check.C, Check.N | Check.V, Check.N | Check.C, 0};
        for (int k = 0; k < a.length; k++) {
            TwoSetMachine x = Check.with(Check.arm(Check.SVC | Check.C, 0xE0B02001), Check.SVC, a[k], b[k]);
            dueFlags(a[k] + " + " + b[k] + " + 1", x, a[k] + b[k] + 1, flags[k]);
        }
    }

    /** SUBS r2, r0, r1 in both sets; RSBS r2, r1, r0; CMP. */
    private static void dueDifference(int a, int b, int flags) {
        for (int before = 0; before < 16; before++) {
            int status = Check.SVC | before << 28;
            String what = a + " - " + b;
            dueFlags("SUBS " + what, Check.with(Check.arm(status, 0xE0502001), Check.SVC, a, b), a - b, flags);
            dueFlags("RSBS " + what, Check.with(Check.arm(status, 0xE0712000), Check.SVC, a, b), a - b, flags);
            dueFlags("CMP " + what, Check.with(Check.arm(status, 0xE1500001), Check.SVC, a, b, 9), 9, flags);
            dueFlags("THUMB " + what, Check.with(Check.thumb(status, 0x1A42), Check.SVC, a, b), a - b, flags);
        }
    }

    private static void difference() {
        Check.sentence("FLAGS", "a - b is a + not b + 1.");
        dueDifference(0, 0, Check.Z | Check.C);
        dueDifference(5, 5, Check.Z | Check.C);
        dueDifference(1, 0, Check.C);
        dueDifference(0, 1, Check.N);
        dueDifference(0, -1, 0);
        dueDifference(-1, -1, Check.Z | Check.C);
        dueDifference(0, Integer.MIN_VALUE, Check.N | Check.V);
        dueDifference(Integer.MIN_VALUE, 1, Check.C | Check.V);
        dueDifference(Integer.MAX_VALUE, -1, Check.N | Check.V);
        dueDifference(Integer.MIN_VALUE, Integer.MIN_VALUE, Check.Z | Check.C);
        dueDifference(-1, Integer.MAX_VALUE, Check.N | Check.C);
        // a - b - 1 + C is a + not b + C: one less with C 0, where not b is 0 or the sum is at an edge.
        dueWithCarry(0, 0, 0, Check.N);
        dueWithCarry(0, 0, 1, Check.Z | Check.C);
        dueWithCarry(0, -1, 0, Check.Z);
        dueWithCarry(0, -1, 1, 0);
        dueWithCarry(5, -1, 0, 0);
        dueWithCarry(-1, -1, 0, Check.N);
        dueWithCarry(-1, -1, 1, Check.Z | Check.C);
        dueWithCarry(Integer.MIN_VALUE, 0, 0, Check.C | Check.V);
        dueWithCarry(Integer.MIN_VALUE, Integer.MAX_VALUE, 0, Check.Z | Check.C | Check.V);
        dueWithCarry(Integer.MAX_VALUE, -1, 0, 0);
        dueWithCarry(Integer.MAX_VALUE, -1, 1, Check.N | Check.V);
        dueWithCarry(0, Integer.MIN_VALUE, 0, 0);
        dueWithCarry(0, Integer.MIN_VALUE, 1, Check.N | Check.V);
    }

    /** SBCS r2, r0, r1; RSCS r2, r1, r0; in THUMB SBC r2, r1 with r2 as a. */
    private static void dueWithCarry(int a, int b, int c, int flags) {
        for (int before = 0; before < 16; before++) {
            if ((before >> 1 & 1) == c) {
                int status = Check.SVC | before << 28;
                int want = a - b - 1 + c;
                String what = a + " - " + b + " - 1 + " + c;
                dueFlags("SBCS " + what, Check.with(Check.arm(status, 0xE0D02001), Check.SVC, a, b), want, flags);
                dueFlags("RSCS " + what, Check.with(Check.arm(status, 0xE0F12000), Check.SVC, a, b), want, flags);
                dueFlags("THUMB " + what, Check.with(Check.thumb(status, 0x418A), Check.SVC, 0, b, a), want, flags);
            }
        }
    }
}
