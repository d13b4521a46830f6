/** Promise 9, DATA. */
public final class ArmDataTest {
    private static final int[] VALUES = {0, 1, 2, 5, -1, -2, 0x7FFFFFFF, 0x80000000, 0x80000001, 0x55555555};

    /** An object may be used for 512 calls alone, and one operation takes nine. */
    private static final int USES_OF_ONE = 50;
    private static TwoSetMachine shared;
    private static int uses = 0;

    public static void main(String[] args) {
        for (int operation = 0; operation < 16; operation++) {
            for (int n : VALUES) {
                for (int o : VALUES) {
                    for (int flags = 0; flags < 16; flags++) {
                        oneOperation(operation, n, o, flags << 28);
                    }
                }
            }
        }
        withoutFlags();
        shiftCarryOfLogic();
        readingPc();
        writingPc();
        restoring();
        testsWithD15();
        undefined();
        Check.end();
    }

    private static long signed(int operation, int n, int o, int c) {
        long a = n;
        long b = o;
        switch (operation) {
            case 2: case 10: return a - b;
            case 3: return b - a;
            case 4: case 11: return a + b;
            case 5: return a + b + c;
            case 6: return a - b - 1 + c;
            default: return b - a - 1 + c;
        }
    }

    /** Whether the sum goes beyond 32 bits; for a difference: whether nothing is borrowed. */
    private static boolean carries(int operation, int n, int o, int c) {
        long a = n & 0xFFFFFFFFL;
        long b = o & 0xFFFFFFFFL;
        switch (operation) {
            case 2: case 10: return a >= b;
            case 3: return b >= a;
            case 4: case 11: return a + b > 0xFFFFFFFFL;
            case 5: return a + b + c > 0xFFFFFFFFL;
            case 6: return a >= b + 1 - c;
            default: return b >= a + 1 - c;
        }
    }

    private static boolean isLogic(int operation) {
        return operation < 2 || operation == 8 || operation == 9 || operation > 11;
    }

    private static int logic(int operation, int n, int o) {
        switch (operation) {
            case 0: case 8: return n & o;
            case 1: case 9: return n ^ o;
            case 12: return n | o;
            case 13: return o;
            case 14: return n & ~o;
            default: return ~o;
        }
    }

    /** OPs r3, r1, r2. */
    private static void oneOperation(int operation, int n, int o, int before) {
        int c = (before & Check.C) != 0 ? 1 : 0;
        int result;
        int flags;
        if (isLogic(operation)) {
            result = logic(operation, n, o);
            flags = before & (Check.C | Check.V);
        } else {
            long wide = signed(operation, n, o, c);
            result = (int) wide;
            flags = (carries(operation, n, o, c) ? Check.C : 0) | (wide != result ? Check.V : 0);
        }
        flags |= (result < 0 ? Check.N : 0) | (result == 0 ? Check.Z : 0);
        TwoSetMachine x = machine();
        x.poke(Check.START, 0xE0113002 | operation << 21);
        x.status(before | 0xD3);
        x.set(Check.SVC, 1, n);
        x.set(Check.SVC, 2, o);
        x.set(Check.SVC, 3, 0x1111);
        x.set(Check.SVC, 15, Check.START);
        String what = "operation " + operation + " of " + n + " and " + o + " with flags " + (before >>> 28);
        Check.dueStep(what, x);
        boolean test = operation >= 8 && operation <= 11;
        Check.due(what, x.get(Check.SVC, 3), test ? 0x1111 : result);
        Check.due(what + ", flags", x.count(7), flags | 0xD3);
    }

    private static TwoSetMachine machine() {
        if (uses++ % USES_OF_ONE == 0) {
            shared = new TwoSetMachine();
        }
        return shared;
    }

    private static void withoutFlags() {
        for (int operation = 0; operation < 16; operation++) {
            if (operation < 8 || operation > 11) {
                TwoSetMachine x = Check.arm(Check.SVC | Check.Z | Check.V, 0xE0013002 | operation << 21);
                x.set(Check.SVC, 1, -1);
                x.set(Check.SVC, 2, 1);
                Check.dueStep("no flags", x);
                Check.due("flags stay with " + operation, x.count(7), Check.Z | Check.V | 0xD3);
            }
        }
    }

    private static void shiftCarryOfLogic() {
        int[] operations = {0, 1, 8, 9, 12, 13, 14, 15};
        for (int operation : operations) {
            // LSL #1 of 0x80000000: C comes of the shift, V stays.
            TwoSetMachine x = Check.arm(Check.SVC | Check.V, 0xE0113082 | operation << 21);
            x.set(Check.SVC, 2, 0x80000000);
            x.step(1);
            Check.due("C of the shift with " + operation, x.count(7) & (Check.C | Check.V), Check.C | Check.V);
        }
        // ADDS r3, r1, r2, LSL #1 with C only in the shift; ADC takes C as it was.
        TwoSetMachine x = Check.arm(Check.SVC, 0xE0913082, 0xE0A13082);
        x.set(Check.SVC, 2, 0x80000000);
        x.step(1);
        Check.due("C of the sum", x.count(7) & Check.C, 0);
        x.step(1);
        Check.due("ADC with C 0", x.get(Check.SVC, 3), 0);
    }

    private static void readingPc() {
        TwoSetMachine x = Check.arm(Check.SVC, 0xE08F000F, 0xE28F1000, 0xE08F2114, 0xE1A0341F, 0xE1A05F14);
        x.set(Check.SVC, 1, 0);
        x.set(Check.SVC, 4, 0);
        x.step(3);
        Check.due("ADD r0, PC, PC", x.get(Check.SVC, 0), 0x208 + 0x208);
        Check.due("ADD r1, PC, #0", x.get(Check.SVC, 1), 0x20C);
        Check.due("ADD r2, PC, r4, LSL r1 (r15 plus 12)", x.get(Check.SVC, 2), 0x208 + 12);
        x.step(1);
        Check.due("MOV r3, PC, LSL r4 (r15 plus 12)", x.get(Check.SVC, 3), 0x20C + 12);
        x.set(Check.SVC, 4, 1);
        x.step(1);
        Check.due("MOV r5, r4, LSL PC (r15 plus 12, lowest byte)", x.get(Check.SVC, 5), 1 << 0x1C);
    }

    private static void writingPc() {
        TwoSetMachine x = Check.arm(Check.SVC | Check.Z, 0xE1A0F000);
        x.set(Check.SVC, 0, 0x1003);
        x.saved(Check.SVC, 0x10);
        x.step(1);
        Check.due("MOV PC, r0", x.get(Check.SVC, 15), 0x1000);
        Check.due("CPSR stays", x.count(7), Check.Z | 0xD3);
    }

    private static void restoring() {
        for (int mode : Check.MODES) {
            boolean has = mode != Check.USR && mode != Check.SYS;
            TwoSetMachine x = Check.arm(mode | Check.V, 0xE1B0F00E);
            x.set(mode, 14, 0x1007);
            if (has) {
                x.saved(mode, 0xA0000030);
            }
            Check.dueStep("MOVS PC, LR", x);
            Check.due("CPSR of mode " + mode, x.count(7), has ? 0xA0000030 : Check.V | 0xC0 | mode);
            Check.due("PC of mode " + mode, x.get(mode, 15), has ? 0x1006 : 0x1004);
        }
        TwoSetMachine x = Check.arm(Check.IRQ | Check.V, 0xE25EF004);
        x.saved(Check.IRQ, 0x40000025);
        x.set(Check.IRQ, 14, 0x1006);
        x.step(1);
        Check.due("SUBS PC, LR, #4 with a mode that is none", x.count(7), 0x40000032);
        Check.due("PC in THUMB", x.get(Check.IRQ, 15), 0x1002);
        TwoSetMachine y = Check.arm(Check.ABT, 0xE25EF008);
        y.saved(Check.ABT, 0x10);
        y.set(Check.ABT, 14, 0x100B);
        y.step(1);
        Check.due("back to ARM", y.get(Check.USR, 15), 0x1000);
        Check.due("back to USR", y.count(7), 0x10);
    }

    private static void testsWithD15() {
        for (int operation = 8; operation <= 11; operation++) {
            TwoSetMachine x = Check.arm(Check.SVC, 0xE010F000 | operation << 21);
            x.saved(Check.SVC, Check.V | 0x10);
            Check.dueStep("a test with d r15", x);
            Check.due("PC goes on", x.get(Check.SVC, 15), 0x204);
            Check.due("flags alone", x.count(7), Check.Z | 0xD3 | (operation == 10 ? Check.C : 0));
        }
    }

    private static void undefined() {
        for (int operation = 8; operation <= 11; operation++) {
            Check.dueUndefined("a test without flags, number", Check.arm(Check.SVC, 0xE2010002 | operation << 21));
            Check.dueUndefined("a test without flags, shift", Check.arm(Check.SVC, 0xE0010082 | operation << 21));
            Check.dueUndefined("a test without flags, register", Check.arm(Check.SVC, 0xE0010312 | operation << 21));
        }
        // Bits 7 and 4 both 1, neither MULTIPLY nor SWAP nor HALVES.
        Check.dueUndefined("ORR with bits 7 and 4", Check.arm(Check.SVC, 0xE1801092));
        Check.dueUndefined("TST with bits 7 and 4", Check.arm(Check.SVC, 0xE1101092));
        TwoSetMachine x = Check.arm(Check.SVC, 0xE2811090);
        Check.dueStep("bits 7 and 4 with bit 25", x);
        Check.due("ADD r1, r1, #0x90", x.get(Check.SVC, 1), 0x90);
    }
}
