/** Promise 9, MULTIPLY. */
public final class ArmMultiplyTest {
    private static final int[] VALUES = {0, 1, 3, -1, -5, 0x10000, 0x7FFFFFFF, 0x80000000, 0x12345678};

    public static void main(String[] args) {
        for (int m : VALUES) {
            for (int s : VALUES) {
                ofWords(m, s);
                ofLongs(m, s);
            }
        }
        sameRegisters();
        addingAllBits();
        undefined();
        Check.end();
    }

    private static int flags(boolean negative, boolean zero) {
        return (negative ? Check.N : 0) | (zero ? Check.Z : 0) | Check.C | Check.V;
    }

    /** MULS r3, r1, r2 and MLAS r4, r1, r2, r5; then the same without flags. */
    private static void ofWords(int m, int s) {
        TwoSetMachine x = Check.arm(Check.SVC | Check.C | Check.V, 0xE0130291, 0xE0345291, 0xE0060291);
        x.set(Check.SVC, 1, m);
        x.set(Check.SVC, 2, s);
        x.set(Check.SVC, 5, 7);
        x.step(1);
        Check.due("MUL", x.get(Check.SVC, 3), m * s);
        Check.due("flags of MULS", x.count(7), flags(m * s < 0, m * s == 0) | 0xD3);
        x.step(1);
        int sum = m * s + 7;
        Check.due("MLA", x.get(Check.SVC, 4), sum);
        Check.due("flags of MLAS", x.count(7), flags(sum < 0, sum == 0) | 0xD3);
        x.step(1);
        Check.due("MUL without flags", x.get(Check.SVC, 6), m * s);
        Check.due("flags stay", x.count(7), flags(sum < 0, sum == 0) | 0xD3);
    }

    /** UMULLS, SMULLS, UMLALS, SMLALS of r3 (low) and r4 (high). */
    private static void ofLongs(int m, int s) {
        long unsigned = (m & 0xFFFFFFFFL) * (s & 0xFFFFFFFFL);
        long signed = (long) m * s;
        long add = 0xFFFFFFFF00000001L;
        oneLong("UMULLS", 0xE0943291, m, s, unsigned);
        oneLong("SMULLS", 0xE0D43291, m, s, signed);
        oneLong("UMLALS", 0xE0B43291, m, s, unsigned + add);
        oneLong("SMLALS", 0xE0F43291, m, s, signed + add);
    }

    private static void oneLong(String what, int word, int m, int s, long want) {
        TwoSetMachine x = Check.arm(Check.SVC | Check.C | Check.V, word, word & ~0x00100000);
        x.set(Check.SVC, 1, m);
        x.set(Check.SVC, 2, s);
        x.set(Check.SVC, 3, 1);
        x.set(Check.SVC, 4, -1);
        x.step(1);
        Check.due(what + " low", x.get(Check.SVC, 3), (int) want);
        Check.due(what + " high", x.get(Check.SVC, 4), (int) (want >>> 32));
        int cpsr = flags(want < 0, want == 0) | 0xD3;
        Check.due("flags of " + what, x.count(7), cpsr);
        x.set(Check.SVC, 1, 1);
        x.set(Check.SVC, 2, 1);
        x.step(1);
        Check.due("flags stay", x.count(7), cpsr);
    }

    private static void sameRegisters() {
        TwoSetMachine x = Check.arm(Check.SVC, 0xE0010191, 0xE0821291);
        x.set(Check.SVC, 1, 0x10001);
        x.step(1);
        Check.due("MUL r1, r1, r1", x.get(Check.SVC, 1), 0x10001 * 0x10001);
        x.set(Check.SVC, 1, 0x10000);
        x.set(Check.SVC, 2, 0x30000);
        x.step(1);
        Check.due("UMULL r1, r2, r1, r2: low", x.get(Check.SVC, 1), 0);
        Check.due("UMULL r1, r2, r1, r2: high", x.get(Check.SVC, 2), 3);
    }

    private static void addingAllBits() {
        TwoSetMachine x = Check.arm(Check.SVC, 0xE0A43291, 0xE0E43291);
        x.set(Check.SVC, 1, 1);
        x.set(Check.SVC, 2, 1);
        x.set(Check.SVC, 3, -1);
        x.set(Check.SVC, 4, 0x7FFFFFFE);
        x.step(1);
        Check.due("UMLAL, low", x.get(Check.SVC, 3), 0);
        Check.due("UMLAL, high", x.get(Check.SVC, 4), 0x7FFFFFFF);
        x.set(Check.SVC, 1, -1);
        x.set(Check.SVC, 3, 0xF2345678);
        x.step(1);
        Check.due("SMLAL, low", x.get(Check.SVC, 3), 0xF2345677);
        Check.due("SMLAL, high", x.get(Check.SVC, 4), 0x7FFFFFFF);
    }

    private static void undefined() {
        int[] bases = {0xE0000090, 0xE0200090, 0xE0800090, 0xE0A00090, 0xE0C00090, 0xE0E00090, 0xE0100090};
        for (int base : bases) {
            int word = base | 0x00041203;
            Check.dueUndefined("n is r15", Check.arm(Check.SVC, word | 0x000F0000));
            Check.dueUndefined("d is r15", Check.arm(Check.SVC, word | 0x0000F000));
            Check.dueUndefined("s is r15", Check.arm(Check.SVC, word | 0x00000F00));
            Check.dueUndefined("m is r15", Check.arm(Check.SVC, word | 0x0000000F));
            Check.dueStep("no r15", Check.arm(Check.SVC, word));
        }
        for (int base = 0xE0400090; base <= 0xE0700090; base += 0x00100000) {
            Check.dueUndefined("bits 23 .. 22 are 1", Check.arm(Check.SVC, base | 0x00041203));
        }
        for (int base = 0xE0800090; base <= 0xE0F00090; base += 0x00100000) {
            Check.dueUndefined("d is n", Check.arm(Check.SVC, base | 0x00044203));
        }
        Check.dueStep("d is n of MUL", Check.arm(Check.SVC, 0xE0044293));
    }
}
