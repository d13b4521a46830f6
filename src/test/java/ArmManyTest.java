/** Promise 9, MANY. */
public final class ArmManyTest {
    private static final int BASE = 0x800;

    public static void main(String[] args) {
        fourWays();
        baseInList();
        programCounter();
        ofUser();
        restoring();
        noRegister();
        noMemory();
        lowestBits();
        lowestBitsOfFourWays();
        eachRegister();
        Check.end();
    }

    private static TwoSetMachine with(int mode, int base, int... words) {
        TwoSetMachine x = Check.arm(mode, words);
        for (int address = BASE - 64; address < BASE + 64; address += 4) {
            x.poke(address, 0x70000000 + address);
        }
        for (int i = 0; i < 15; i++) {
            x.set(mode, i, 0x100 + i);
        }
        x.set(mode, 1, base);
        return x;
    }

    /** {r3, r5, r14} upwards and downwards, before and behind, written or not. */
    private static void fourWays() {
        for (int bits = 0; bits < 8; bits++) {
            boolean early = (bits & 4) != 0;
            boolean up = (bits & 2) != 0;
            boolean back = (bits & 1) != 0;
            int form = (early ? 1 << 24 : 0) | (up ? 1 << 23 : 0) | (back ? 1 << 21 : 0) | 0xE8014028;
            int lowest = up ? early ? BASE + 4 : BASE : early ? BASE - 12 : BASE - 8;
            int base = !back ? BASE : up ? BASE + 12 : BASE - 12;
            TwoSetMachine x = with(Check.SVC, BASE, form);
            Check.dueStep("STM", x);
            Check.due("STM r3", x.peek(lowest), 0x103);
            Check.due("STM r5", x.peek(lowest + 4), 0x105);
            Check.due("STM r14", x.peek(lowest + 8), 0x10E);
            Check.due("below", x.peek(lowest - 4), 0x70000000 + lowest - 4);
            Check.due("above", x.peek(lowest + 12), 0x70000000 + lowest + 12);
            Check.due("n of STM", x.get(Check.SVC, 1), base);
            TwoSetMachine y = with(Check.SVC, BASE, form | 1 << 20);
            Check.dueStep("LDM", y);
            Check.due("LDM r3", y.get(Check.SVC, 3), 0x70000000 + lowest);
            Check.due("LDM r5", y.get(Check.SVC, 5), 0x70000000 + lowest + 4);
            Check.due("LDM r14", y.get(Check.SVC, 14), 0x70000000 + lowest + 8);
            Check.due("r4 stays", y.get(Check.SVC, 4), 0x104);
            Check.due("n of LDM", y.get(Check.SVC, 1), base);
        }
    }

    private static void baseInList() {
        TwoSetMachine x = with(Check.SVC, BASE, 0xE8A10007);
        x.step(1);
        Check.due("n is stored as it was", x.peek(BASE + 4), BASE);
        Check.due("n is written behind", x.get(Check.SVC, 1), BASE + 12);
        TwoSetMachine y = with(Check.SVC, BASE, 0xE8B10007);
        y.step(1);
        Check.due("what is loaded stays", y.get(Check.SVC, 1), 0x70000000 + BASE + 4);
    }

    private static void programCounter() {
        TwoSetMachine x = with(Check.SVC, BASE, 0xE8818001, 0xE8918001);
        x.step(1);
        Check.due("r0", x.peek(BASE), 0x100);
        Check.due("r15 plus 12", x.peek(BASE + 4), 0x20C);
        x.poke(BASE + 4, 0x1237);
        x.saved(Check.SVC, 0x30);
        x.step(1);
        Check.due("r15 loaded", x.get(Check.SVC, 15), 0x1234);
        Check.due("CPSR stays", x.count(7), 0xD3);
        // n as r15: STMIA PC!, {r2}; LDMIA PC!, {r2}
        TwoSetMachine y = with(Check.SVC, BASE, 0xE8AF0004, 0xE8BF0004);
        y.step(1);
        Check.due("stored at r15 plus 8", y.peek(0x208), 0x102);
        Check.due("r15 is not written", y.get(Check.SVC, 15), 0x204);
        y.poke(0x20C, 7);
        y.step(1);
        Check.due("loaded from r15 plus 8", y.get(Check.SVC, 2), 7);
        Check.due("r15 is not written", y.get(Check.SVC, 15), 0x208);
    }

    private static void ofUser() {
        // STMIA r1, {r8, r13, r14, r15}^ in FIQ, then LDMIA r1, {r8, r13, r14}^
        TwoSetMachine x = with(Check.FIQ, BASE, 0xE8C1E100, 0xE8D16100);
        x.set(Check.USR, 8, 0x908);
        x.set(Check.USR, 13, 0x90D);
        x.set(Check.USR, 14, 0x90E);
        x.step(1);
        Check.due("r8 of USR", x.peek(BASE), 0x908);
        Check.due("r13 of USR", x.peek(BASE + 4), 0x90D);
        Check.due("r14 of USR", x.peek(BASE + 8), 0x90E);
        Check.due("r15 plus 12", x.peek(BASE + 12), 0x20C);
        x.poke(BASE, 0xA08);
        x.poke(BASE + 4, 0xA0D);
        x.step(1);
        Check.due("r8 of USR loaded", x.get(Check.USR, 8), 0xA08);
        Check.due("r13 of USR loaded", x.get(Check.SYS, 13), 0xA0D);
        Check.due("r8 of FIQ stays", x.get(Check.FIQ, 8), 0x108);
        Check.due("r13 of FIQ stays", x.get(Check.FIQ, 13), 0x10D);
        Check.due("CPSR stays", x.count(7), 0xD1);
        // LDMIA r13!, {r13}^ in SVC: n is the one of SVC, what is loaded comes to USR.
        TwoSetMachine y = with(Check.SVC, BASE, 0xE8FD2000);
        y.set(Check.SVC, 13, BASE);
        y.step(1);
        Check.due("r13 of SVC", y.get(Check.SVC, 13), BASE + 4);
        Check.due("r13 of USR", y.get(Check.USR, 13), 0x70000000 + BASE);
    }

    private static void restoring() {
        for (int mode : Check.MODES) {
            boolean has = mode != Check.USR && mode != Check.SYS;
            // LDMIA r1!, {r0, r13, r15}^
            TwoSetMachine x = with(mode, BASE, 0xE8F1A001);
            x.poke(BASE + 8, 0x1237);
            if (has) {
                x.saved(mode, 0x90000030);
            }
            Check.dueStep("LDM with r15 and bit 22", x);
            Check.due("CPSR of " + mode, x.count(7), has ? 0x90000030 : mode | 0xC0);
            Check.due("PC by the new T", x.get(mode, 15), has ? 0x1236 : 0x1234);
            Check.due("r13 of the mode that was", x.get(mode, 13), 0x70000000 + BASE + 4);
            Check.due("n", x.get(mode, 1), BASE + 12);
        }
        TwoSetMachine x = with(Check.ABT, BASE, 0xE8D18000);
        x.saved(Check.ABT, 0x60000000);
        x.step(1);
        Check.due("a mode that is none", x.count(7), 0x60000017);
        // Bit 22 in a store with r15 is no restoring.
        TwoSetMachine y = with(Check.ABT, BASE, 0xE8C18000);
        y.saved(Check.ABT, 0x10);
        y.step(1);
        Check.due("a store", y.count(7), 0xD7);
    }

    private static void noRegister() {
        for (int form = 0; form < 32; form++) {
            TwoSetMachine x = with(Check.SVC, -8, 0xE8010000 | form << 20);
            Check.dueStep("no register", x);
            Check.due("n stays", x.get(Check.SVC, 1), -8);
            Check.due("PC goes on", x.get(Check.SVC, 15), 0x204);
            Check.due("CPSR stays", x.count(7), 0xD3);
        }
    }

    private static void noMemory() {
        TwoSetMachine x = with(Check.SVC, 0x3FFF8, 0xE8A1003D);
        Check.dueDataAbort("STM over the end", x);
        Check.due("the first is stored", x.peek(0x3FFF8), 0x100);
        Check.due("the second is stored", x.peek(0x3FFFC), 0x102);
        Check.due("n stays", x.get(Check.SVC, 1), 0x3FFF8);
        TwoSetMachine y = with(Check.SVC, 0x3FFF8, 0xE8B1803D);
        y.saved(Check.SVC, 0x10);
        Check.dueDataAbort("LDM over the end", y);
        Check.due("r0 stays", y.get(Check.SVC, 0), 0x100);
        Check.due("n stays", y.get(Check.SVC, 1), 0x3FFF8);
        TwoSetMachine z = with(Check.SVC, 4, 0xE921001D);
        Check.dueDataAbort("STM from below 0", z);
        Check.due("nothing stored", z.peek(0), 0);
        Check.due("n stays", z.get(Check.SVC, 1), 4);
        TwoSetMachine v = with(Check.SVC, 4, 0xE931001D);
        Check.dueDataAbort("LDM from below 0", v);
        Check.due("r4 stays", v.get(Check.SVC, 4), 0x104);
        TwoSetMachine w = with(Check.SVC, 0x3FFFC, 0xE8B10001);
        Check.dueStep("the last word", w);
        Check.due("n may be outside", w.get(Check.SVC, 1), 0x40000);
        // STMFD r1!, {r0, r2} with n just behind memory.
        TwoSetMachine u = with(Check.SVC, 0x40000, 0xE9210005);
        Check.dueStep("downwards from the end", u);
        Check.due("n", u.get(Check.SVC, 1), 0x3FFF8);
    }

    /** {r3, r4} from a base that is no multiple of 4. */
    private static void lowestBitsOfFourWays() {
        for (int k = 0; k < 4; k++) {
            for (int way = 0; way < 4; way++) {
                int lowest = new int[] {BASE - 4, BASE, BASE - 8, BASE + 4}[way];
                TwoSetMachine x = with(Check.SVC, BASE + k, 0xE8110018 | way << 23);
                Check.dueStep("LDM", x);
                Check.due("LDM r3, way " + way + " with " + k, x.get(Check.SVC, 3), 0x70000000 + lowest);
                Check.due("LDM r4, way " + way + " with " + k, x.get(Check.SVC, 4), 0x70000000 + lowest + 4);
                TwoSetMachine y = with(Check.SVC, BASE + k, 0xE8010018 | way << 23);
                Check.dueStep("STM", y);
                Check.due("STM r3, way " + way + " with " + k, y.peek(lowest), 0x103);
                Check.due("STM r4, way " + way + " with " + k, y.peek(lowest + 4), 0x104);
            }
        }
    }

    /** STMIA and LDMIA of one register, n written; n is another one. */
    private static void eachRegister() {
        for (int i = 0; i < 15; i++) {
            int n = i == 1 ? 2 : 1;
            TwoSetMachine x = with(Check.SVC, BASE, 0xE8A00000 | n << 16 | 1 << i, 0xE8B00000 | n << 16 | 1 << i);
            x.set(Check.SVC, i, 0x55);
            x.set(Check.SVC, n, BASE);
            x.step(1);
            Check.due("STM of r" + i, x.peek(BASE), 0x55);
            Check.due("n of STM of r" + i, x.get(Check.SVC, n), BASE + 4);
            x.step(1);
            Check.due("LDM of r" + i, x.get(Check.SVC, i), 0x70000000 + BASE + 4);
            Check.due("n of LDM of r" + i, x.get(Check.SVC, n), BASE + 8);
        }
    }

    private static void lowestBits() {
        for (int k = 0; k < 4; k++) {
            TwoSetMachine x = with(Check.SVC, BASE + k, 0xE8A10005, 0xE8B10018);
            x.step(1);
            Check.due("stored", x.peek(BASE), 0x100);
            Check.due("stored", x.peek(BASE + 4), 0x102);
            Check.due("n", x.get(Check.SVC, 1), BASE + 8 + k);
            x.step(1);
            Check.due("loaded without turning", x.get(Check.SVC, 3), 0x70000000 + BASE + 8);
            Check.due("n", x.get(Check.SVC, 1), BASE + 16 + k);
        }
    }
}
