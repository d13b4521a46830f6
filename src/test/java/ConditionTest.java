/** Promise 9, CONDITIONS: of ARM instructions and of the THUMB branch. */
public final class ConditionTest {
    public static void main(String[] args) {
        for (int flags = 0; flags < 16; flags++) {
            for (int condition = 0; condition < 15; condition++) {
                armMove(flags, condition);
                if (condition < 14) {
                    thumbBranch(flags, condition);
                }
            }
            Check.dueUndefined("condition 15", Check.arm(flags << 28 | Check.SVC, 0xF3A00001));
        }
        undefinedUnderCondition();
        Check.end();
    }

    private static boolean holds(int flags, int condition) {
        boolean n = (flags & 8) != 0;
        boolean z = (flags & 4) != 0;
        boolean c = (flags & 2) != 0;
        boolean v = (flags & 1) != 0;
        boolean[] all = {z, !z, c, !c, n, !n, v, !v, c && !z, !c || z, n == v, n != v, !z && n == v, z || n != v, true};
        return all[condition];
    }

    /** MOV r0, #1 under a condition. */
    private static void armMove(int flags, int condition) {
        TwoSetMachine x = Check.arm(flags << 28 | Check.SVC, condition << 28 | 0x03A00001);
        Check.dueStep("MOV", x);
        Check.due("condition " + condition + " with flags " + flags, x.get(Check.SVC, 0), holds(flags, condition) ? 1 : 0);
        Check.due("PC", x.get(Check.SVC, 15), 0x204);
    }

    /** A branch over 0x20 bytes. */
    private static void thumbBranch(int flags, int condition) {
        TwoSetMachine x = Check.thumb(flags << 28 | Check.SVC, 0xD010 | condition << 8);
        Check.dueStep("B", x);
        int want = holds(flags, condition) ? 0x224 : 0x202;
        Check.due("THUMB condition " + condition + " with flags " + flags, x.get(Check.SVC, 15), want);
    }

    private static void undefinedUnderCondition() {
        int[] words = {0x06000010, 0x0F000000, 0x05900000, 0x0E000000, 0x01000050};
        for (int word : words) {
            TwoSetMachine x = Check.arm(Check.SVC, word);
            x.set(Check.SVC, 0, -4);
            Check.dueStep("what would be a fault, under EQ that is not so", x);
            Check.due("PC", x.get(Check.SVC, 15), 0x204);
        }
    }
}
