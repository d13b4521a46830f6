/** Promise 9, TRANSFER, HALVES and SWAP. */
public final class ArmTransferTest {
    private static final int WORD = 0x84A3C2F1;

    public static void main(String[] args) {
        addressing();
        shiftedOffsets();
        oddPlaces();
        bytes();
        halves();
        halvesOffsets();
        sameRegister();
        programCounter();
        noMemory();
        undefined();
        swap();
        Check.end();
    }

    private static TwoSetMachine with(int r1, int... words) {
        TwoSetMachine x = Check.arm(Check.SVC, words);
        x.poke(0x800, WORD);
        x.poke(0x810, 0x11111111);
        x.poke(0x7F0, 0x22222222);
        x.set(Check.SVC, 1, r1);
        x.set(Check.SVC, 2, 0x10);
        x.set(Check.SVC, 3, 0x33333333);
        return x;
    }

    /** LDR r4, of r1 = 0x800 and 0x10, with all of bits 25, 24, 23 and 21. */
    private static void addressing() {
        for (int bits = 0; bits < 16; bits++) {
            boolean byRegister = (bits & 8) != 0;
            boolean early = (bits & 4) != 0;
            boolean up = (bits & 2) != 0;
            boolean back = (bits & 1) != 0;
            int form = (byRegister ? 0x02000002 : 0x10) | (early ? 1 << 24 : 0) | (up ? 1 << 23 : 0) | (back ? 1 << 21 : 0);
            int moved = up ? 0x810 : 0x7F0;
            int address = early ? moved : 0x800;
            int base = !early || back ? moved : 0x800;
            TwoSetMachine load = with(0x800, 0xE4114000 | form);
            Check.dueStep("LDR", load);
            Check.due("LDR " + bits, load.get(Check.SVC, 4), early ? up ? 0x11111111 : 0x22222222 : WORD);
            Check.due("n of LDR " + bits, load.get(Check.SVC, 1), base);
            TwoSetMachine store = with(0x800, 0xE4013000 | form);
            Check.dueStep("STR", store);
            Check.due("STR " + bits, store.peek(address), 0x33333333);
            Check.due("n of STR " + bits, store.get(Check.SVC, 1), base);
        }
        TwoSetMachine far = with(0x800, 0xE5914FFF & ~3);
        far.poke(0x800 + 0xFFC, 99);
        far.step(1);
        Check.due("an offset of 12 bits", far.get(Check.SVC, 4), 99);
    }

    private static void shiftedOffsets() {
        // LDR r4, [r1, r2, LSL #2], LSR #2, ASR #32 (0), RRX (0).
        TwoSetMachine x = with(0x800, 0xE7914102, 0xE7914122, 0xE7914042, 0xE7914062);
        x.poke(0x840, 1);
        x.poke(0x804, 2);
        x.poke(0x808, 3);
        x.step(1);
        Check.due("LSL", x.get(Check.SVC, 4), 1);
        x.step(1);
        Check.due("LSR", x.get(Check.SVC, 4), 2);
        x.set(Check.SVC, 2, 0x80000000);
        x.set(Check.SVC, 1, 0x801);
        x.step(1);
        Check.due("ASR 32", x.get(Check.SVC, 4), WORD);
        x.set(Check.SVC, 2, 0x11);
        x.set(Check.SVC, 1, 0x80000800);
        x.status(0xD3 | Check.C);
        x.step(1);
        Check.due("RRX", x.get(Check.SVC, 4), 3);
        Check.due("no flags", x.count(7), 0xD3 | Check.C);
    }

    private static void oddPlaces() {
        for (int k = 0; k < 4; k++) {
            TwoSetMachine x = with(0x800 + k, 0xE5914000, 0xE5813000);
            x.step(1);
            Check.due("LDR at " + k, x.get(Check.SVC, 4), Integer.rotateRight(WORD, 8 * k));
            x.step(1);
            Check.due("STR at " + k, x.peek(0x800), 0x33333333);
            Check.due("and not behind", x.peek(0x804), 0);
        }
    }

    private static void bytes() {
        for (int k = 0; k < 4; k++) {
            TwoSetMachine x = with(0x800 + k, 0xE5D14000, 0xE5C13000);
            x.step(1);
            Check.due("LDRB at " + k, x.get(Check.SVC, 4), WORD >>> 8 * k & 0xFF);
            x.set(Check.SVC, 3, 0xABCDEF5A);
            x.step(1);
            Check.due("STRB at " + k, x.peek(0x800), WORD & ~(0xFF << 8 * k) | 0x5A << 8 * k);
        }
    }

    private static void halves() {
        for (int k = 0; k < 4; k++) {
            // LDRH, LDRSB, LDRSH r4..r6, [r1]; STRH r3, [r1]
            TwoSetMachine x = with(0x800 + k, 0xE1D140B0, 0xE1D150D0, 0xE1D160F0, 0xE1C130B0);
            x.step(3);
            int half = WORD >>> 8 * (k & 2) & 0xFFFF;
            Check.due("LDRH at " + k, x.get(Check.SVC, 4), half);
            Check.due("LDRSB at " + k, x.get(Check.SVC, 5), (byte) (WORD >>> 8 * k));
            Check.due("LDRSH at " + k, x.get(Check.SVC, 6), (short) half);
            x.set(Check.SVC, 3, 0xABCD1234);
            x.step(1);
            Check.due("STRH at " + k, x.peek(0x800), k < 2 ? WORD & 0xFFFF0000 | 0x1234 : WORD & 0xFFFF | 0x12340000);
        }
    }

    private static void halvesOffsets() {
        for (int bits = 0; bits < 16; bits++) {
            boolean number = (bits & 8) != 0;
            boolean early = (bits & 4) != 0;
            boolean up = (bits & 2) != 0;
            boolean back = (bits & 1) != 0;
            // Bits 11 .. 8 are not asked when the offset is a register.
            int form = (number ? 0x00400100 : 0xF02) | (early ? 1 << 24 : 0) | (up ? 1 << 23 : 0) | (back ? 1 << 21 : 0);
            int moved = up ? 0x810 : 0x7F0;
            TwoSetMachine x = with(0x800, 0xE01140B0 | form);
            Check.dueStep("LDRH", x);
            Check.due("LDRH " + bits, x.get(Check.SVC, 4), early ? up ? 0x1111 : 0x2222 : WORD & 0xFFFF);
            Check.due("n of LDRH " + bits, x.get(Check.SVC, 1), !early || back ? moved : 0x800);
        }
        TwoSetMachine x = with(0x800, 0xE1D14FBE);
        x.poke(0x8FC, 0x56780000);
        x.step(1);
        Check.due("an offset of 8 bits", x.get(Check.SVC, 4), 0x5678);
    }

    private static void sameRegister() {
        TwoSetMachine x = with(0x800, 0xE4911010, 0xE5B11000);
        x.step(1);
        Check.due("LDR r1, [r1], #16: what is loaded comes last", x.get(Check.SVC, 1), WORD);
        TwoSetMachine y = with(0x800, 0xE5A11010);
        y.step(1);
        Check.due("STR r1, [r1, #16]!: stored as it was", y.peek(0x810), 0x800);
        Check.due("and n written", y.get(Check.SVC, 1), 0x810);
    }

    private static void programCounter() {
        TwoSetMachine x = with(0x800, 0xE581F000, 0xE5C1F004, 0xE1C1F0B8, 0xE59F4000, 0xE41F5004, 0xE1DF60B0);
        x.step(6);
        Check.due("STR PC: plus 12", x.peek(0x800), 0x20C);
        Check.due("STRB PC: plus 12", x.peek(0x804), 0x10);
        Check.due("STRH PC: plus 12", x.peek(0x808), 0x214);
        Check.due("LDR of PC: plus 8", x.get(Check.SVC, 4), 0xE1DF60B0);
        Check.due("LDR r5, [PC], #-4: PC is not written", x.get(Check.SVC, 5), 0);
        Check.due("LDRH of PC", x.get(Check.SVC, 6), 0);
        Check.due("PC goes on", x.get(Check.SVC, 15), 0x218);
        TwoSetMachine y = with(0x800, 0xE491F010);
        y.poke(0x800, 0x1237);
        y.saved(Check.SVC, 0x30);
        y.step(1);
        Check.due("LDR PC", y.get(Check.SVC, 15), 0x1234);
        Check.due("LDR PC: T stays", y.count(7), 0xD3);
        Check.due("LDR PC: n", y.get(Check.SVC, 1), 0x810);
        TwoSetMachine z = with(0x800, 0xE791400F, 0xE1D1F0B0);
        z.set(Check.SVC, 1, -0x208 + 0x800);
        z.step(1);
        Check.due("PC as offset: plus 8", z.get(Check.SVC, 4), WORD);
        TwoSetMachine h = with(0x800 - 0x208, 0xE19140BF);
        h.step(1);
        Check.due("PC as offset of LDRH: plus 8", h.get(Check.SVC, 4), WORD & 0xFFFF);
        z.set(Check.SVC, 1, 0x800);
        z.step(1);
        Check.due("LDRH PC", z.get(Check.SVC, 15), WORD & 0xFFFC);
    }

    private static void noMemory() {
        int[] words = {0xE4914004, 0xE4814004, 0xE4D14004, 0xE4C14004, 0xE0D140B4, 0xE0C140B4, 0xE0D140D4, 0xE0D140F4,
            0xE5B14004, 0xE5A14004, 0xE1014093, 0xE1414093};
        int[] places = {0x40000, 0x40003, -8, -1, 0x80000000};
        for (int word : words) {
            for (int place : places) {
                boolean early = (word & 0x01200000) == 0x01200000;
                int base = early ? place - 4 : place;
                TwoSetMachine x = with(base, word);
                x.set(Check.SVC, 4, 44);
                Check.dueDataAbort(Integer.toHexString(word) + " at " + place, x);
                Check.due("n stays", x.get(Check.SVC, 1), base);
                Check.due("d stays", x.get(Check.SVC, 4), 44);
            }
        }
        TwoSetMachine x = with(0x3FFFF, 0xE5914000, 0xE5C13000, 0xE1D140B0);
        Check.due("the last bytes", x.step(3), 0);
        Check.due("the last byte", x.peek(0x3FFFC), 0x33000000);
        TwoSetMachine y = with(0x40000, 0xE4114004);
        Check.dueDataAbort("n is the address without bit 24", y);
        TwoSetMachine z = with(0x3FFFC, 0xE4914004);
        Check.dueStep("n + o may be outside without bit 24", z);
        Check.due("n + o", z.get(Check.SVC, 1), 0x40000);
    }

    private static void undefined() {
        int[] words = {0xE6914012, 0xE7814012, 0xE6D14F92, 0xE1C140D0, 0xE1C140F0, 0xE10140F2, 0xE00140D2};
        for (int word : words) {
            Check.dueUndefined(Integer.toHexString(word), with(0x800, word));
        }
        // UND goes before DABT.
        Check.dueUndefined("STR of a sign without memory", with(-4, 0xE1C140D0));
        Check.dueUndefined("SWP with r15 without memory", with(-4, 0xE101F093));
    }

    private static void swap() {
        for (int k = 0; k < 4; k++) {
            TwoSetMachine x = with(0x800 + k, 0xE1014093);
            Check.dueStep("SWP", x);
            Check.due("SWP at " + k, x.get(Check.SVC, 4), Integer.rotateRight(WORD, 8 * k));
            Check.due("SWP writes at " + k, x.peek(0x800), 0x33333333);
            TwoSetMachine y = with(0x800 + k, 0xE1414093);
            Check.dueStep("SWPB", y);
            Check.due("SWPB at " + k, y.get(Check.SVC, 4), WORD >>> 8 * k & 0xFF);
            Check.due("SWPB writes at " + k, y.peek(0x800), WORD & ~(0xFF << 8 * k) | 0x33 << 8 * k);
        }
        TwoSetMachine x = with(0x800, 0xE1013093, 0xE1011091);
        x.step(1);
        Check.due("SWP r3, r3, [r1]", x.get(Check.SVC, 3), WORD);
        Check.due("memory", x.peek(0x800), 0x33333333);
        x.step(1);
        Check.due("SWP r1, r1, [r1]", x.get(Check.SVC, 1), 0x33333333);
        Check.due("memory", x.peek(0x800), 0x800);
        int[] words = {0xE10F4093, 0xE101F093, 0xE101409F, 0xE14F4093, 0xE141F093, 0xE141409F, 0xE1014193, 0xE1214093, 0xE1114093, 0xE1814093};
        for (int word : words) {
            Check.dueUndefined(Integer.toHexString(word), with(0x800, word));
        }
    }
}
