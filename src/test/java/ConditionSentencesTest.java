import java.util.Map;

/** CONDITIONS, sentence by sentence, of ARM instructions; those of THUMB stand with its branches. */
public final class ConditionSentencesTest {
    /** MOV r0, #1 */
    private static final int MOVE = 0x03A00001;

    public static void main(String[] args) {
        ofOneFlag();
        ofCarryAndZero();
        ofSign();
        ofSignAndZero();
        always();
        nothingIsDone();
        Check.end();
    }

    private static boolean on(int flags, int flag) {
        return (flags & flag) != 0;
    }

    private static void due(int flags, int condition, boolean want) {
        TwoSetMachine x = Check.arm(flags | Check.SVC, condition << 28 | MOVE);
        Check.dueStep("condition " + condition, x);
        String what = "condition " + condition + " with flags " + (flags >>> 28);
        Check.due(what, x.get(Check.SVC, 0), want ? 1 : 0);
        Check.due(what + ": PC", x.get(Check.SVC, 15), 0x204);
        Check.due(what + ": CPSR", x.count(7), flags | 0xD3);
    }

    private static void ofOneFlag() {
        Check.sentence("CONDITIONS", "CONDITIONS, bits 31 .. 28 of an instruction (ARM): 0 EQ Z; 1 NE not Z; 2 CS C; 3 CC;"
                + " 4 MI N; 5 PL; 6 VS V; 7 VC;");
        int[] flag = {Check.Z, Check.C, Check.N, Check.V};
        for (int bits = 0; bits < 16; bits++) {
            for (int k = 0; k < 4; k++) {
                due(bits << 28, 2 * k, on(bits << 28, flag[k]));
                due(bits << 28, 2 * k + 1, !on(bits << 28, flag[k]));
            }
        }
    }

    private static void ofCarryAndZero() {
        Check.sentence("CONDITIONS", "8 HI C and not Z; 9 LS not HI;");
        for (int bits = 0; bits < 16; bits++) {
            boolean higher = on(bits << 28, Check.C) && !on(bits << 28, Check.Z);
            due(bits << 28, 8, higher);
            due(bits << 28, 9, !higher);
        }
    }

    private static void ofSign() {
        Check.sentence("CONDITIONS", "10 GE N is V; 11 LT;");
        for (int bits = 0; bits < 16; bits++) {
            boolean same = on(bits << 28, Check.N) == on(bits << 28, Check.V);
            due(bits << 28, 10, same);
            due(bits << 28, 11, !same);
        }
    }

    private static void ofSignAndZero() {
        Check.sentence("CONDITIONS", "12 GT GE and not Z; 13 LE not GT;");
        for (int bits = 0; bits < 16; bits++) {
            boolean greater = on(bits << 28, Check.N) == on(bits << 28, Check.V) && !on(bits << 28, Check.Z);
            due(bits << 28, 12, greater);
            due(bits << 28, 13, !greater);
        }
    }

    private static void always() {
        Check.sentence("CONDITIONS", "14 always; 15: UND.");
        for (int bits = 0; bits < 16; bits++) {
            due(bits << 28, 14, true);
            // What would be a move, a branch, a SWI, a load without memory, nothing at all.
            for (int word : new int[] {0xF3A00001, 0xFA000000, 0xFF000000, 0xF5100004, 0xF8000000}) {
                TwoSetMachine x = Check.arm(bits << 28 | Check.SVC, word);
                Check.dueFaultAlone(Integer.toHexString(word), x, 0, Check.UND, 4, 0x204);
            }
        }
    }

    private static void nothingIsDone() {
        Check.sentence("CONDITIONS", "If it is not so, nothing is done.");
        // One of each kind, under EQ, with Z 0; the last ones would be faults.
        int[] words = {0x012FFF11, 0x00130291, 0x00943291, 0x01013092, 0x01D130B0, 0x00D130B4, 0x01C120B0, 0x010F3000, 0x0129F002,
            0x0169F002, 0x00913002, 0x02913002, 0x01B0F001, 0x01510001, 0x05B13004, 0x05A13004, 0x08B1000C, 0x08A1000C, 0x08F18000,
            0x0A000004, 0x0B000004, 0x0F000000, 0x06000010, 0x0E000000, 0x01000050, 0x05943000, 0x08B40001};
        for (int word : words) {
            TwoSetMachine x = Check.with(Check.arm(Check.SVC | Check.C, word), Check.SVC, 9, 0x800, 2, 3, -4);
            x.poke(0x800, 0x12345678);
            Map<String, Integer> before = Check.state(x);
            Check.dueStep(Integer.toHexString(word), x);
            Check.dueStays(Integer.toHexString(word), x, before, "PC");
            Check.due("PC", x.get(Check.SVC, 15), 0x204);
            Check.due("memory stays", x.peek(0x800), 0x12345678);
            Check.due("memory stays", x.peek(0x804), 0);
        }
    }
}
