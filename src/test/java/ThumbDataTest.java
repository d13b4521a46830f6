/** Promise 9, THUMB: what computes. */
public final class ThumbDataTest {
    private static final int[] VALUES = {0, 1, 5, 255, -1, 0x7FFFFFFF, 0x80000000, 0x55555555};

    /** The ARM operation of each of AND EOR . . . ADC SBC . TST . CMP CMN ORR . BIC MVN. */
    private static final int[] AS_ARM = {0, 1, -1, -1, -1, 5, 6, -1, 8, -1, 10, 11, 12, -1, 14, 15};

    public static void main(String[] args) {
        for (int first : VALUES) {
            for (int second : VALUES) {
                for (int flags = 0; flags < 16; flags += 3) {
                    for (int operation = 0; operation < 16; operation++) {
                        ofTwoRegisters(operation, first, second, flags << 28);
                    }
                    addOrSubtract(first, second, flags << 28);
                    withNumber(first, second & 0xFF, flags << 28);
                }
            }
        }
        allRegisters();
        exchange();
        addresses();
        Check.end();
    }

    /** What ARM does with the same values: result in r0, its flags in CPSR; tested by itself elsewhere. */
    private static TwoSetMachine byArm(int word, int first, int second, int flags) {
        TwoSetMachine x = machine();
        x.status(flags | 0xD3);
        x.poke(Check.START, word);
        x.set(Check.SVC, 15, Check.START);
        x.set(Check.SVC, 0, first);
        x.set(Check.SVC, 1, second);
        x.step(1);
        return x;
    }

    private static TwoSetMachine byThumb(int half, int first, int second, int flags) {
        TwoSetMachine x = machine();
        x.status(flags | 0xF3);
        x.poke(Check.START, half);
        x.set(Check.SVC, 15, Check.START);
        x.set(Check.SVC, 0, first);
        x.set(Check.SVC, 1, second);
        Check.dueStep(Integer.toHexString(half), x);
        Check.due("PC", x.get(Check.SVC, 15), Check.START + 2);
        return x;
    }

    /** An object may be used for 512 calls alone, and one use takes about ten. */
    private static final int USES_OF_ONE = 20;
    private static TwoSetMachine shared;
    private static int uses = 0;

    private static TwoSetMachine machine() {
        if (uses++ % USES_OF_ONE == 0) {
            shared = new TwoSetMachine();
        }
        return shared;
    }

    private static void dueSame(int half, int word, int first, int second, int flags) {
        TwoSetMachine want = byArm(word, first, second, flags);
        int result = want.get(Check.SVC, 0);
        int status = want.count(7) | 0x20;
        TwoSetMachine x = byThumb(half, first, second, flags);
        String what = Integer.toHexString(half) + " of " + first + " and " + second + " with " + (flags >>> 28);
        Check.due(what, x.get(Check.SVC, 0), result);
        Check.due(what + ", CPSR", x.count(7), status);
    }

    private static void ofTwoRegisters(int operation, int first, int second, int flags) {
        int half = 0x4008 | operation << 6;
        if (AS_ARM[operation] >= 0) {
            dueSame(half, 0xE0100001 | AS_ARM[operation] << 21, first, second, flags);
        } else if (operation == 9) {
            dueSame(half, 0xE2710000, first, second, flags);
        } else if (operation == 13) {
            dueSame(half, 0xE0100190, first, second, flags);
        } else {
            int kind = operation == 7 ? 3 : operation - 2;
            dueSame(half, 0xE1B00110 | kind << 5, first, second, flags);
        }
    }

    private static void addOrSubtract(int first, int second, int flags) {
        dueSame(0x1840, 0xE0900001, first, second, flags);
        dueSame(0x1A40, 0xE0500001, first, second, flags);
        for (int number = 0; number < 8; number += 7) {
            dueSame(0x1C00 | number << 6, 0xE2900000 | number, first, second, flags);
            dueSame(0x1E00 | number << 6, 0xE2500000 | number, first, second, flags);
        }
        // d = r0 of s = r1, so that s is not taken for d.
        dueSame(0x1C48, 0xE2910001, first, second, flags);
    }

    private static void withNumber(int first, int number, int flags) {
        dueSame(0x2000 | number, 0xE3B00000 | number, first, 0, flags);
        dueSame(0x2800 | number, 0xE3500000 | number, first, 0, flags);
        dueSame(0x3000 | number, 0xE2900000 | number, first, 0, flags);
        dueSame(0x3800 | number, 0xE2500000 | number, first, 0, flags);
        TwoSetMachine x = byThumb(0x2700 | number, 1, 2, flags);
        Check.due("MOV r7", x.get(Check.SVC, 7), number);
    }

    private static void allRegisters() {
        for (int d = 0; d < 16; d++) {
            for (int s = 0; s < 16; s++) {
                int bits = (d & 8) << 4 | s << 3 | d & 7;
                int dValue = d == 15 ? 0x204 : 0x1001 + 16 * d;
                int sValue = s == 15 ? 0x204 : 0x1001 + 16 * s;
                TwoSetMachine add = ready(0x4400 | bits);
                Check.dueStep("ADD", add);
                int sum = dValue + sValue;
                Check.due("ADD r" + d + ", r" + s, add.get(Check.SVC, d), d == 15 ? sum & ~1 : sum);
                Check.due("ADD sets no flags", add.count(7), Check.Z | Check.V | 0xF3);
                TwoSetMachine compare = ready(0x4500 | bits);
                Check.dueStep("CMP", compare);
                int flags = (dValue < sValue ? Check.N : Check.C) | (dValue == sValue ? Check.Z : 0);
                Check.due("CMP r" + d + ", r" + s, compare.count(7), flags | 0xF3);
                Check.due("CMP does not write", compare.get(Check.SVC, d), d == 15 ? 0x202 : dValue);
                TwoSetMachine move = ready(0x4600 | bits);
                Check.dueStep("MOV", move);
                Check.due("MOV r" + d + ", r" + s, move.get(Check.SVC, d), d == 15 ? sValue & ~1 : sValue);
                Check.due("MOV sets no flags", move.count(7), Check.Z | Check.V | 0xF3);
            }
        }
    }

    private static TwoSetMachine ready(int half) {
        TwoSetMachine x = Check.thumb(Check.SVC | Check.Z | Check.V, half);
        for (int i = 0; i < 15; i++) {
            x.set(Check.SVC, i, 0x1001 + 16 * i);
        }
        return x;
    }

    private static void exchange() {
        for (int s = 0; s < 16; s++) {
            TwoSetMachine x = ready(0x4700 | s << 3);
            Check.dueStep("BX", x);
            Check.due("BX r" + s, x.get(Check.SVC, 15), s == 15 ? 0x204 : 0x1000 + 16 * s);
            Check.due("T of BX r" + s, x.count(7) & 0x20, s == 15 ? 0 : 0x20);
            Check.dueUndefined("BX with bit 7", ready(0x4780 | s << 3));
        }
        TwoSetMachine x = ready(0x4718);
        x.set(Check.SVC, 3, 0x2006);
        x.step(1);
        Check.due("BX to ARM", x.get(Check.SVC, 15), 0x2004);
        TwoSetMachine y = Check.thumb(Check.SVC, 0x46C0, 0x4778);
        y.step(2);
        Check.due("BX PC from 0x202", y.get(Check.SVC, 15), 0x204);
        Check.due("BX PC from 0x202: T", y.count(7), 0xD3);
    }

    private static void addresses() {
        TwoSetMachine x = Check.thumb(Check.SVC | Check.Z, 0xA001, 0xA1FF, 0xAA00, 0xABFF, 0xB07F, 0xB0FF, 0xB080, 0xB001);
        x.set(Check.SVC, 13, 0x1003);
        x.step(4);
        Check.due("PC + 4", x.get(Check.SVC, 0), 0x208);
        Check.due("PC of an odd word", x.get(Check.SVC, 1), 0x204 + 1020);
        Check.due("SP", x.get(Check.SVC, 2), 0x1003);
        Check.due("SP + 1020", x.get(Check.SVC, 3), 0x1003 + 1020);
        x.step(1);
        Check.due("SP up", x.get(Check.SVC, 13), 0x1003 + 508);
        x.step(1);
        Check.due("SP down", x.get(Check.SVC, 13), 0x1003);
        x.step(2);
        Check.due("SP up by 4", x.get(Check.SVC, 13), 0x1007);
        Check.due("no flags", x.count(7), Check.Z | 0xF3);
    }
}
