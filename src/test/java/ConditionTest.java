/** Promise 9, CONDITIONS: of ARM instructions and of the THUMB branch. */
public final class ConditionTest {
    public static void main(String[] args) {
        for (int flags = 0; flags < 16; flags++) {
            for (int condition = 0; condition < 15; condition++) {
                armMove(flags, condition);
                if (condition < 14) {
                    thumbBranch(flags, condition);
                }
            }
            Check.dueUndefined("condition 15", Check.arm(flags << 28 | Check.SVC, 0xF3A00001));
        }
        undefinedUnderCondition();
        everyKindUnderConditions();
        Check.end();
    }

    /** One instruction of each kind does the same under always and under any condition that is so. */
    private static void everyKindUnderConditions() {
        int[] words = {0x012FFF11, 0x00030291, 0x00843291, 0x01013092, 0x01D130B0, 0x01C120B0, 0x010F3000, 0x0128F002,
            0x0328F20A, 0x00813002, 0x02813002, 0x00913112, 0x01500001, 0x05913000, 0x07913002, 0x08A1000C, 0x08B1000C,
            0x0A000004, 0x0B000004, 0x0F000000, 0x06000010, 0x0E000000, 0x01000050};
        for (int word : words) {
            String want = seen(0xE0000000 | word);
            for (int condition = 0; condition < 14; condition++) {
                String got = seen(condition << 28 | word);
                if (holds(FLAGS, condition)) {
                    Check.dueText(Integer.toHexString(word) + " under " + condition, got, want);
                } else {
                    Check.dueText(Integer.toHexString(word) + " under " + condition, got, seen(0xE1A00000));
                }
            }
        }
    }

    /** N and C. */
    private static final int FLAGS = 10;

    private static String seen(int word) {
        TwoSetMachine x = Check.arm(FLAGS << 28 | Check.SVC, word);
        x.poke(0x400, 0x12345678);
        x.set(Check.SVC, 1, 0x400);
        x.set(Check.SVC, 2, 4);
        StringBuilder s = new StringBuilder().append(x.step(1));
        for (int i = 0; i < 16; i++) {
            s.append(' ').append(x.get(x.count(7) & 0x1F, i));
        }
        for (int address = 0x3F8; address < 0x410; address += 4) {
            s.append(' ').append(x.peek(address));
        }
        return s.append(' ').append(x.count(7)).toString();
    }

    private static boolean holds(int flags, int condition) {
        boolean n = (flags & 8) != 0;
        boolean z = (flags & 4) != 0;
        boolean c = (flags & 2) != 0;
        boolean v = (flags & 1) != 0;
        boolean[] all = {z, !z, c, !c, n, !n, v, !v, c && !z, !c || z, n == v, n != v, !z && n == v, z || n != v, true};
        return all[condition];
    }

    /** MOV r0, #1 under a condition. */
    private static void armMove(int flags, int condition) {
        TwoSetMachine x = Check.arm(flags << 28 | Check.SVC, condition << 28 | 0x03A00001);
        Check.dueStep("MOV", x);
        Check.due("condition " + condition + " with flags " + flags, x.get(Check.SVC, 0), holds(flags, condition) ? 1 : 0);
        Check.due("PC", x.get(Check.SVC, 15), 0x204);
    }

    /** A branch over 0x20 bytes. */
    private static void thumbBranch(int flags, int condition) {
        TwoSetMachine x = Check.thumb(flags << 28 | Check.SVC, 0xD010 | condition << 8);
        Check.dueStep("B", x);
        int want = holds(flags, condition) ? 0x224 : 0x202;
        Check.due("THUMB condition " + condition + " with flags " + flags, x.get(Check.SVC, 15), want);
    }

    private static void undefinedUnderCondition() {
        int[] words = {0x06000010, 0x0F000000, 0x05900000, 0x0E000000, 0x01000050};
        for (int word : words) {
            TwoSetMachine x = Check.arm(Check.SVC, word);
            x.set(Check.SVC, 0, -4);
            Check.dueStep("what would be a fault, under EQ that is not so", x);
            Check.due("PC", x.get(Check.SVC, 15), 0x204);
        }
    }
}
