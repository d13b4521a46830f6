/** Promise 9, THUMB: what loads and stores. */
public final class ThumbTransferTest {
    private static final int WORD = 0x84A3C2F1;
    private static final int BASE = 0x800;

    public static void main(String[] args) {
        besidePc();
        byRegister();
        byNumber();
        besideSp();
        pushAndPop();
        many();
        allRegisters();
        noMemory();
        Check.end();
    }

    private static TwoSetMachine with(int r1, int... halves) {
        TwoSetMachine x = Check.thumb(Check.SVC | Check.N, halves);
        for (int i = 0; i < 15; i++) {
            x.set(Check.SVC, i, 0x100 + i);
        }
        x.set(Check.SVC, 1, r1);
        x.poke(BASE, WORD);
        return x;
    }

    private static void dueLoaded(String what, TwoSetMachine x, int want) {
        Check.dueStep(what, x);
        Check.due(what, x.get(Check.SVC, 0), want);
        Check.due(what + ": CPSR", x.count(7), Check.N | 0xF3);
    }

    private static void dueStored(String what, TwoSetMachine x, int address, int want) {
        Check.dueStep(what, x);
        Check.due(what, x.peek(address), want);
        Check.due(what + ": the word behind", x.peek(address + 4), 0);
    }

    private static void besidePc() {
        TwoSetMachine x = with(0, 0x4801, 0x4801, 0x4BFF);
        x.poke(0x208, 55);
        dueLoaded("LDR r0, [PC, #4]", x, 55);
        dueLoaded("LDR r0, [PC, #4] from an odd word", x, 55);
        x.poke(0x208 + 1020, 66);
        x.step(1);
        Check.due("LDR r3, [PC, #1020]", x.get(Check.SVC, 3), 66);
    }

    /** STR STRH STRB LDSB LDR LDRH LDRB LDSH r0, [r1, r2] with r1 + r2 = BASE + k. */
    private static void byRegister() {
        for (int k = 0; k < 4; k++) {
            int half = WORD >>> 8 * (k & 2) & 0xFFFF;
            int[] want = {0, 0, 0, (byte) (WORD >>> 8 * k), Integer.rotateRight(WORD, 8 * k), half, WORD >>> 8 * k & 0xFF, (short) half};
            for (int bits = 0; bits < 8; bits++) {
                TwoSetMachine x = with(BASE + k + 0x100, 0x5088 | bits << 9);
                x.set(Check.SVC, 2, -0x100);
                x.set(Check.SVC, 0, 0x12345678);
                if (bits >= 3) {
                    dueLoaded("by register " + bits + " at " + k, x, want[bits]);
                } else {
                    int mask = bits == 0 ? -1 : bits == 1 ? 0xFFFF << 8 * (k & 2) : 0xFF << 8 * k;
                    int value = bits == 0 ? 0x12345678 : bits == 1 ? 0x5678 << 8 * (k & 2) : 0x78 << 8 * k;
                    dueStored("by register " + bits + " at " + k, x, BASE, WORD & ~mask | value);
                }
                Check.due("n stays", x.get(Check.SVC, 1), BASE + k + 0x100);
            }
        }
    }

    private static void byNumber() {
        dueLoaded("LDR r0, [r1, #124]", with(BASE - 124, 0x6FC8), WORD);
        dueLoaded("LDR r0, [r1] turned", with(BASE + 1, 0x6808), Integer.rotateRight(WORD, 8));
        dueStored("STR r3, [r1, #4]", with(BASE - 4, 0x604B), BASE, 0x103);
        dueLoaded("LDRB r0, [r1, #31]", with(BASE + 2 - 31, 0x7FC8), 0xA3);
        dueStored("STRB r3, [r1, #1]", with(BASE, 0x704B), BASE, WORD & ~0xFF00 | 0x300);
        dueLoaded("LDRH r0, [r1, #62]", with(BASE + 2 - 62, 0x8FC8), 0x84A3);
        dueLoaded("LDRH of an odd place", with(BASE + 1, 0x8808), 0xC2F1);
        dueStored("STRH r3, [r1, #2]", with(BASE, 0x804B), BASE, 0x01030000 | WORD & 0xFFFF);
    }

    private static void besideSp() {
        TwoSetMachine x = with(0, 0x98FF, 0x9301);
        x.set(Check.SVC, 13, BASE - 1020);
        dueLoaded("LDR r0, [SP, #1020]", x, WORD);
        x.set(Check.SVC, 13, BASE - 4);
        dueStored("STR r3, [SP, #4]", x, BASE, 0x103);
    }

    private static void pushAndPop() {
        TwoSetMachine x = with(0x101, 0xB581, 0xB402, 0xBC04, 0xBD48);
        x.set(Check.SVC, 13, BASE);
        x.step(1);
        Check.due("PUSH r0", x.peek(BASE - 12), 0x100);
        Check.due("PUSH r7", x.peek(BASE - 8), 0x107);
        Check.due("PUSH LR", x.peek(BASE - 4), 0x10E);
        Check.due("SP", x.get(Check.SVC, 13), BASE - 12);
        x.step(2);
        Check.due("PUSH r1, POP r2", x.get(Check.SVC, 2), 0x101);
        x.poke(BASE - 4, 0x1236);
        x.step(1);
        Check.due("POP r3", x.get(Check.SVC, 3), 0x100);
        Check.due("POP r6", x.get(Check.SVC, 6), 0x107);
        Check.due("POP PC", x.get(Check.SVC, 15), 0x1236);
        Check.due("SP", x.get(Check.SVC, 13), BASE);
        Check.due("CPSR stays", x.count(7), Check.N | 0xF3);
        TwoSetMachine y = with(0, 0xBD00);
        y.set(Check.SVC, 13, BASE);
        y.poke(BASE, 0x1235);
        y.step(1);
        Check.due("POP PC, odd", y.get(Check.SVC, 15), 0x1234);
        TwoSetMachine z = with(0, 0xBD00);
        z.set(Check.SVC, 13, BASE);
        z.poke(BASE, 0x1234);
        z.step(1);
        Check.due("POP PC: T stays", z.count(7) & 0x20, 0x20);
        TwoSetMachine none = with(0, 0xB400, 0xBC00);
        none.set(Check.SVC, 13, -4);
        Check.due("PUSH and POP of nothing", none.step(2), 0);
        Check.due("SP stays", none.get(Check.SVC, 13), -4);
    }

    private static void many() {
        TwoSetMachine x = with(BASE, 0xC185, 0xC958);
        x.step(1);
        Check.due("STM r0", x.peek(BASE), 0x100);
        Check.due("STM r2", x.peek(BASE + 4), 0x102);
        Check.due("STM r7", x.peek(BASE + 8), 0x107);
        Check.due("b of STM", x.get(Check.SVC, 1), BASE + 12);
        x.set(Check.SVC, 1, BASE);
        x.step(1);
        Check.due("LDM r3", x.get(Check.SVC, 3), 0x100);
        Check.due("LDM r4", x.get(Check.SVC, 4), 0x102);
        Check.due("LDM r6", x.get(Check.SVC, 6), 0x107);
        Check.due("b of LDM", x.get(Check.SVC, 1), BASE + 12);
        TwoSetMachine y = with(BASE, 0xC107);
        y.step(1);
        Check.due("b is stored as it was", y.peek(BASE + 4), BASE);
        Check.due("b is written behind", y.get(Check.SVC, 1), BASE + 12);
        TwoSetMachine z = with(BASE, 0xC903);
        z.poke(BASE + 4, 9);
        z.step(1);
        Check.due("b loaded stays", z.get(Check.SVC, 1), 9);
        TwoSetMachine none = with(-4, 0xC100, 0xC900);
        Check.due("STM and LDM of nothing", none.step(2), 0);
        Check.due("b stays", none.get(Check.SVC, 1), -4);
    }

    /** PUSH and POP, STM and LDM of r0 .. r7, one by one and all of them. */
    private static void allRegisters() {
        int[] lists = {0x01, 0x02, 0x04, 0x08, 0x10, 0x20, 0x40, 0x80, 0x7E, 0xBD, 0xFF};
        for (int low : lists) {
            TwoSetMachine x = with(0x101, 0xB400 | low, 0xBC00 | low);
            x.set(Check.SVC, 13, BASE);
            dueKept("PUSH and POP " + low, x, low, 13, BASE - 4 * Integer.bitCount(low), BASE - 4 * Integer.bitCount(low));
            for (int b = 0; b < 8; b++) {
                TwoSetMachine y = with(0x101, 0xC000 | b << 8 | low, 0xC800 | b << 8 | low);
                y.set(Check.SVC, b, BASE);
                if ((low >> b & 1) == 0) {
                    dueKept("STM and LDM of r" + b + ", " + low, y, low, b, BASE, BASE + 4 * Integer.bitCount(low));
                }
            }
        }
    }

    /** A store of the listed registers from the lowest address on, then a load of other words. */
    private static void dueKept(String what, TwoSetMachine x, int list, int b, int lowest, int moved) {
        Check.dueStep(what, x);
        Check.due(what + ": b", x.get(Check.SVC, b), moved);
        int address = lowest;
        for (int i = 0; i < 8; i++) {
            if ((list >> i & 1) != 0) {
                Check.due(what + ": r" + i + " stored", x.peek(address), 0x100 + i);
                x.poke(address, 0x900 + i);
                address += 4;
            }
        }
        x.set(Check.SVC, b, lowest);
        Check.dueStep(what, x);
        for (int i = 0; i < 8; i++) {
            if (i != b) {
                Check.due(what + ": r" + i + " loaded", x.get(Check.SVC, i), (list >> i & 1) != 0 ? 0x900 + i : 0x100 + i);
            }
        }
        Check.due(what + ": b", x.get(Check.SVC, b), address);
    }

    private static void noMemory() {
        int[] halves = {0x6808, 0x6008, 0x7808, 0x7008, 0x8808, 0x8008, 0xC101, 0xC901, 0x5008 | 0x1C0, 0x5E08 | 0x1C0};
        for (int half : halves) {
            TwoSetMachine x = with(0x40000, half);
            x.set(Check.SVC, 7, 0);
            Check.dueDataAbort(Integer.toHexString(half), x);
            Check.due("r0 stays", x.get(Check.SVC, 0), 0x100);
            Check.due("r1 stays", x.get(Check.SVC, 1), 0x40000);
        }
        TwoSetMachine x = with(0, 0xB403);
        x.set(Check.SVC, 13, 4);
        Check.dueDataAbort("PUSH below 0", x);
        Check.due("SP stays", x.get(Check.SVC, 13), 4);
        TwoSetMachine y = with(0, 0xBD01);
        y.set(Check.SVC, 13, 0x3FFFC);
        Check.dueDataAbort("POP over the end", y);
        Check.due("SP stays", y.get(Check.SVC, 13), 0x3FFFC);
        Check.due("r0 stays", y.get(Check.SVC, 0), 0x100);
        TwoSetMachine z = with(0x3FFF8, 0xC10D);
        Check.dueDataAbort("STM over the end", z);
        Check.due("words below are stored", z.peek(0x3FFFC), 0x102);
        TwoSetMachine v = with(0, 0x9800);
        v.set(Check.SVC, 13, -4);
        Check.dueDataAbort("LDR beside SP", v);
        TwoSetMachine w = new TwoSetMachine();
        w.status(0xF3);
        w.poke(0x3FFFC, 0x4800);
        w.set(Check.SVC, 15, 0x3FFFC);
        Check.dueDataAbort("LDR beside PC", w);
    }
}
