/** Promise 9, A SHIFT: by a register, by a number, of a number, in both sets. */
public final class ShiftTest {
    private static final int[] VALUES = {0, 1, 0x80000000, 0x80000001, 0x7FFFFFFF, -1, 0x12345678, 0xC0000003};
    private static final int[] AMOUNTS = {0, 1, 2, 7, 16, 30, 31, 32, 33, 63, 64, 65, 128, 255, 256, 257, 0xFFFFFF00};

    private static int value;
    private static int carry;

    public static void main(String[] args) {
        for (int v : VALUES) {
            for (int kind = 0; kind < 4; kind++) {
                for (int c = 0; c < 2; c++) {
                    for (int n : AMOUNTS) {
                        byRegister(kind, v, n, c);
                    }
                    for (int n = 0; n < 32; n++) {
                        byNumber(kind, v, n, c);
                    }
                }
            }
        }
        for (int turn = 0; turn < 16; turn++) {
            ofNumber(turn, 0xA5, 0);
            ofNumber(turn, 0xA5, 1);
            ofNumber(turn, 0, 1);
        }
        Check.end();
    }

    /** Bit by bit, so that it shares nothing with the program. */
    private static void shift(int kind, int v, int n, int c) {
        value = v;
        carry = c;
        for (int k = 0; k < n; k++) {
            int top = value >>> 31;
            int bottom = value & 1;
            carry = kind == 0 ? top : bottom;
            if (kind == 0) {
                value <<= 1;
            } else {
                int in = kind == 1 ? 0 : kind == 2 ? top : bottom;
                value = value >>> 1 | in << 31;
            }
        }
    }

    private static void shiftByNumber(int kind, int v, int n, int c) {
        if (n == 0 && kind == 3) {
            value = v >>> 1 | c << 31;
            carry = v & 1;
        } else {
            shift(kind, v, n == 0 && kind != 0 ? 32 : n, c);
        }
    }

    private static int status(int c) {
        return Check.SVC | Check.V | (c == 1 ? Check.C : 0);
    }

    private static int flags() {
        return (value < 0 ? Check.N : 0) | (value == 0 ? Check.Z : 0) | (carry == 1 ? Check.C : 0) | Check.V;
    }

    private static void dueShift(String what, TwoSetMachine x) {
        Check.dueStep(what, x);
        Check.due(what, x.get(Check.SVC, 0), value);
        Check.due(what + ", flags", x.count(7) & 0xF0000000, flags());
    }

    private static void byRegister(int kind, int v, int n, int c) {
        shift(kind, v, n & 0xFF, c);
        String what = "kind " + kind + " of " + v + " by " + n + " with C " + c;
        TwoSetMachine x = Check.arm(status(c), 0xE1B00211 | kind << 5);
        x.set(Check.SVC, 1, v);
        x.set(Check.SVC, 2, n);
        dueShift("ARM " + what, x);
        int[] thumb = {0x4090, 0x40D0, 0x4110, 0x41D0};
        TwoSetMachine y = Check.thumb(status(c), thumb[kind]);
        y.set(Check.SVC, 0, v);
        y.set(Check.SVC, 2, n);
        dueShift("THUMB " + what, y);
    }

    private static void byNumber(int kind, int v, int n, int c) {
        shiftByNumber(kind, v, n, c);
        String what = "kind " + kind + " of " + v + " by the number " + n + " with C " + c;
        TwoSetMachine x = Check.arm(status(c), 0xE1B00001 | n << 7 | kind << 5);
        x.set(Check.SVC, 1, v);
        dueShift("ARM " + what, x);
        if (kind < 3) {
            TwoSetMachine y = Check.thumb(status(c), kind << 11 | n << 6 | 1 << 3);
            y.set(Check.SVC, 1, v);
            dueShift("THUMB " + what, y);
        }
    }

    /** MOVS r0, #number turned. */
    private static void ofNumber(int turn, int number, int c) {
        shift(3, number, 2 * turn, c);
        carry = turn == 0 ? c : value >>> 31;
        TwoSetMachine x = Check.arm(status(c), 0xE3B00000 | turn << 8 | number);
        dueShift(number + " turned by " + 2 * turn, x);
    }
}
