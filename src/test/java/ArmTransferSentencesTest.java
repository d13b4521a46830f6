import java.util.Map;

/** TRANSFER, and what it shares with HALVES, sentence by sentence. */
public final class ArmTransferSentencesTest {
    private static final String PIECE = "TRANSFER";
    private static final String SHARED = "Of TRANSFER, HALVES";
    private static final int WORD = 0x84A3C2F1;
    private static final int STORED = 0xDDCCBBAA;
    private static final int BASE = 0x800;

    /** LDR, LDRB, LDRH, LDRSB, LDRSH of r0 at r1, their offset 0 a number, without bits 24, 23 and 21. */
    private static final int[] LOADS = {0xE4110000, 0xE4510000, 0xE05100B0, 0xE05100D0, 0xE05100F0};
    private static final int[] LOADED = {WORD, WORD & 0xFF, WORD & 0xFFFF, (byte) WORD, (short) WORD};
    /** STR, STRB, STRH of r2 at r1 likewise. */
    private static final int[] STORES = {0xE4012000, 0xE4412000, 0xE04120B0};
    private static final int[] MEMORY = {STORED, WORD & ~0xFF | 0xAA, WORD & ~0xFFFF | 0xBBAA};

    private static final int EARLY = 1 << 24;
    private static final int UP = 1 << 23;
    private static final int BACK = 1 << 21;

    public static void main(String[] args) {
        undefined();
        places();
        offsets();
        oddPlaceLoaded();
        oddPlaceStored();
        programCounterStored();
        writtenWithoutEarly();
        early();
        late();
        programCounterNotWritten();
        loadedLast();
        abortLeavesBase();
        Check.end();
    }

    private static TwoSetMachine ready(int word, int r1) {
        TwoSetMachine x = Check.with(Check.arm(Check.SVC, word), Check.SVC, 0, r1, STORED, 0);
        x.poke(BASE, WORD);
        return x;
    }

    private static void undefined() {
        Check.sentence(PIECE, "TRANSFER: bits 27 .. 26 are 1 (bit 25 with bit 4: UND):");
        for (int form = 0; form < 32; form++) {
            for (int low : new int[] {0x10, 0x90, 0xFFF}) {
                int word = 0xE6012000 | form << 20 | low;
                Check.dueFaultAlone(Integer.toHexString(word), ready(word, BASE), 0, Check.UND, 4, 0x204);
            }
        }
        TwoSetMachine x = ready(0xE5910010, BASE - 16);
        Check.dueStep("bit 4 without bit 25", x);
        Check.due("LDR r0, [r1, #16]", x.get(Check.SVC, 0), WORD);
        TwoSetMachine y = ready(0xE7910083, BASE);
        Check.dueStep("bit 25 without bit 4", y);
        Check.due("LDR r0, [r1, r3, LSL #1]", y.get(Check.SVC, 0), WORD);
    }

    private static void places() {
        Check.sentence(PIECE, "a word, or a byte with bit 22, at n, n + o or n - o (bit 23: +): loaded to d with bit 20, else stored.");
        for (int kind = 0; kind < 2; kind++) {
            for (int up = 0; up < 2; up++) {
                int place = up == 1 ? UP : 0;
                int base = up == 1 ? BASE - 20 : BASE + 20;
                dueLoaded("ahead", ready(LOADS[kind] | EARLY | place | 20, base), LOADED[kind]);
                dueLoaded("behind", ready(LOADS[kind] | place | 20, BASE), LOADED[kind]);
                dueStored("ahead", ready(STORES[kind] | EARLY | place | 20, base), MEMORY[kind]);
                dueStored("behind", ready(STORES[kind] | place | 20, BASE), MEMORY[kind]);
            }
        }
        for (int d = 0; d < 15; d++) {
            // LDR d, [r1]; STR d, [r1]: each register
            TwoSetMachine x = ready(0xE5910000 | d << 12, BASE);
            Check.dueStep("LDR", x);
            Check.due("LDR r" + d, x.get(Check.SVC, d), WORD);
            TwoSetMachine y = ready(0xE5810000 | d << 12, BASE);
            Check.dueStep("STR", y);
            Check.due("STR r" + d, y.peek(BASE), d == 1 ? BASE : d == 2 ? STORED : 0);
        }
        // The ends of memory, and just outside of them.
        for (int kind = 0; kind < 2; kind++) {
            for (int place : new int[] {0, 3, 0x3FFFC, 0x3FFFF}) {
                Check.dueStep("load at " + place, ready(LOADS[kind] | EARLY, place));
                Check.dueStep("store at " + place, ready(STORES[kind] | EARLY, place));
            }
            for (int place : new int[] {-1, -4, 0x40000, 0x40003, Integer.MAX_VALUE, Integer.MIN_VALUE}) {
                Check.dueFaultAlone("load at " + place, ready(LOADS[kind] | EARLY, place), 3, Check.ABT, 0x10, 0x208);
                Check.dueFaultAlone("store at " + place, ready(STORES[kind] | EARLY, place), 3, Check.ABT, 0x10, 0x208);
            }
        }
        // Addresses go round: -4 + 8, and 4 - 8 is not there.
        TwoSetMachine x = ready(0xE5910008, -4);
        x.poke(4, 77);
        dueLoaded("-4 + 8", x, 77);
        Check.dueDataAbort("4 - 8", ready(0xE5110008, 4));
    }

    private static void dueLoaded(String what, TwoSetMachine x, int want) {
        int cpsr = x.count(7);
        Check.dueStep(what, x);
        Check.due(what + ": loaded", x.get(Check.SVC, 0), want);
        Check.due(what + ": no flags", x.count(7), cpsr);
    }

    private static void dueStored(String what, TwoSetMachine x, int want) {
        Check.dueStep(what, x);
        Check.due(what + ": stored", x.peek(BASE), want);
        Check.due(what + ": below", x.peek(BASE - 4), 0);
        Check.due(what + ": above", x.peek(BASE + 4), 0);
    }

    private static void offsets() {
        Check.sentence(PIECE, "o is bits 11 .. 0, or (bit 25) m shifted by a number.");
        for (int o : new int[] {0, 1, 4, 0x7FF, 0x800, 0xFFF}) {
            TwoSetMachine x = Check.with(Check.arm(Check.SVC, 0xE5D10000 | o), Check.SVC, 0, 0x1000 - o);
            x.poke(0x1000, 0x77);
            dueLoaded("o is " + o, x, 0x77);
        }
        int value = 0x80000018;
        for (int n = 1; n < 32; n++) {
            int[] shifted = {value << n, value >>> n, value >> n, Integer.rotateRight(value, n)};
            for (int kind = 0; kind < 4; kind++) {
                // LDRB r0, [r1, r3, shifted by n]; C of the shift is no flag here.
                TwoSetMachine x = ready(0xE7D10003 | n << 7 | kind << 5, BASE - shifted[kind]);
                x.set(Check.SVC, 3, value);
                dueLoaded("kind " + kind + " by " + n, x, WORD & 0xFF);
            }
        }
        // LDR r0, [r1, PC]: an operand, plus 8.
        dueLoaded("r15 as o", ready(0xE791000F, BASE - 0x208), WORD);
    }

    private static void oddPlaceLoaded() {
        Check.sentence(PIECE, "A word loaded from an odd place is that of the address with its lowest bits as 0,"
                + " turned right by eight times these;");
        for (int k = 0; k < 4; k++) {
            dueLoaded("at " + k, ready(0xE5910000, BASE + k), Integer.rotateRight(WORD, 8 * k));
            TwoSetMachine x = ready(0xE5910000, 0x3FFFC + k);
            x.poke(0x3FFFC, WORD);
            dueLoaded("at the end, " + k, x, Integer.rotateRight(WORD, 8 * k));
            // LDR PC, [r1]: turned, and then its lowest bits are 0.
            TwoSetMachine y = ready(0xE591F000, BASE + k);
            Check.dueStep("LDR PC", y);
            Check.due("LDR PC at " + k, y.get(Check.SVC, 15), Integer.rotateRight(WORD, 8 * k) & ~3);
        }
    }

    private static void oddPlaceStored() {
        Check.sentence(PIECE, "stored likewise without turning.");
        for (int k = 0; k < 4; k++) {
            dueStored("at " + k, ready(0xE5812000, BASE + k), STORED);
            TwoSetMachine x = ready(0xE5812000, 0x3FFFC + k);
            Check.dueStep("at the end", x);
            Check.due("at the end, " + k, x.peek(0x3FFFC), STORED);
        }
    }

    private static void programCounterStored() {
        Check.sentence(PIECE, "r15 is stored as the address plus 12 (with HALVES, too).");
        // STR PC, [r1]; STRB; STRH
        dueStored("STR", ready(0xE581F000, BASE), 0x20C);
        dueStored("STRB", ready(0xE5C1F000, BASE), WORD & ~0xFF | 0x0C);
        dueStored("STRH", ready(0xE1C1F0B0, BASE), WORD & ~0xFFFF | 0x20C);
        TwoSetMachine x = new TwoSetMachine();
        x.poke(0x3FFFC, 0xE581F000);
        x.set(Check.SVC, 15, 0x3FFFC);
        Check.dueStep("at the end", x);
        Check.due("STR PC at the end", x.peek(0), 0x40008);
    }

    private static void writtenWithoutEarly() {
        Check.sentence(PIECE, "(Bit 21 with bit 24 0 is as without.)");
        for (int k = 0; k < LOADS.length; k++) {
            for (int up = 0; up <= UP; up += UP) {
                TwoSetMachine x = ready(LOADS[k] | BACK | up | 4, BASE);
                dueLoaded("load " + k, x, LOADED[k]);
                Check.due("n", x.get(Check.SVC, 1), up != 0 ? BASE + 4 : BASE - 4);
            }
        }
        for (int k = 0; k < STORES.length; k++) {
            TwoSetMachine x = ready(STORES[k] | BACK | UP | 4, BASE);
            dueStored("store " + k, x, MEMORY[k]);
            Check.due("n", x.get(Check.SVC, 1), BASE + 4);
        }
        // LDRT in SVC: the registers and CPSR of the mode that is.
        TwoSetMachine x = ready(0xE4B1D004, BASE);
        Check.dueStep("LDRT", x);
        Check.due("r13 of SVC", x.get(Check.SVC, 13), WORD);
        Check.due("r13 of USR", x.get(Check.USR, 13), 0);
    }

    private static void early() {
        Check.sentence(SHARED, "Of TRANSFER, HALVES: bit 24: n + o is the address, and is written to n with bit 21;");
        for (int up = 0; up <= UP; up += UP) {
            int base = up != 0 ? BASE - 12 : BASE + 12;
            for (int back = 0; back <= BACK; back += BACK) {
                for (int k = 0; k < LOADS.length; k++) {
                    TwoSetMachine x = ready(LOADS[k] | EARLY | up | back | 12, base);
                    Map<String, Integer> before = Check.state(x);
                    dueLoaded("load " + k, x, LOADED[k]);
                    Check.due("n", x.get(Check.SVC, 1), back != 0 ? BASE : base);
                    Check.dueStays("load " + k, x, before, "PC", Check.register(Check.SVC, 0), Check.register(Check.SVC, 1));
                }
                for (int k = 0; k < STORES.length; k++) {
                    TwoSetMachine x = ready(STORES[k] | EARLY | up | back | 12, base);
                    Map<String, Integer> before = Check.state(x);
                    dueStored("store " + k, x, MEMORY[k]);
                    Check.due("n", x.get(Check.SVC, 1), back != 0 ? BASE : base);
                    Check.dueStays("store " + k, x, before, "PC", Check.register(Check.SVC, 1));
                }
            }
        }
        // What is written keeps its lowest bits, and goes round: LDR r0, [r1, #6]! of -4
        TwoSetMachine x = ready(0xE5B10006, -4);
        Check.dueStep("LDR", x);
        Check.due("n goes round", x.get(Check.SVC, 1), 2);
    }

    private static void late() {
        Check.sentence(SHARED, "without bit 24 n is the address, and n + o always written.");
        for (int up = 0; up <= UP; up += UP) {
            for (int o = 0; o < 16; o += 5) {
                int moved = up != 0 ? BASE + o : BASE - o;
                for (int k = 0; k < LOADS.length; k++) {
                    TwoSetMachine x = ready(LOADS[k] | up | o, BASE);
                    dueLoaded("load " + k, x, LOADED[k]);
                    Check.due("n", x.get(Check.SVC, 1), moved);
                }
                for (int k = 0; k < STORES.length; k++) {
                    TwoSetMachine x = ready(STORES[k] | up | o, BASE);
                    dueStored("store " + k, x, MEMORY[k]);
                    Check.due("n", x.get(Check.SVC, 1), moved);
                }
            }
        }
        // n + o need not be there: LDR r0, [r1], #4 of the last word, LDR r0, [r1], #-4 of the first.
        TwoSetMachine x = ready(0xE4910004, 0x3FFFC);
        Check.dueStep("the last word", x);
        Check.due("n behind memory", x.get(Check.SVC, 1), 0x40000);
        TwoSetMachine y = ready(0xE4110004, 0);
        Check.dueStep("the first word", y);
        Check.due("n below 0", y.get(Check.SVC, 1), -4);
        Check.dueDataAbort("n is the address, though n - o were there", ready(0xE4110004, 0x40000));
    }

    private static void programCounterNotWritten() {
        Check.sentence(SHARED, "n as r15 is not written.");
        // LDR r0, [PC], #4; LDR r0, [PC, #4]!; STR likewise; LDRH and STRH likewise
        int[] words = {0xE49F0004, 0xE5BF0004, 0xE48F2004, 0xE5AF2004, 0xE0DF00B4, 0xE1FF00B4, 0xE0CF20B4, 0xE1EF20B4};
        for (int word : words) {
            TwoSetMachine x = ready(word, 0);
            x.poke(0x208, WORD);
            x.poke(0x20C, WORD);
            Check.dueStep(Integer.toHexString(word), x);
            Check.due("PC goes on", x.get(Check.SVC, 15), 0x204);
            boolean early = (word & EARLY) != 0;
            boolean half = (word & 0x04000000) == 0;
            if ((word & 1 << 20) != 0) {
                Check.due("loaded", x.get(Check.SVC, 0), half ? WORD & 0xFFFF : WORD);
            } else {
                Check.due("stored", x.peek(early ? 0x20C : 0x208), half ? WORD & ~0xFFFF | 0xBBAA : STORED);
            }
        }
    }

    private static void loadedLast() {
        Check.sentence(SHARED, "What is loaded comes last.");
        for (int k = 0; k < LOADS.length; k++) {
            // d is n: r1
            int word = LOADS[k] | 1 << 12 | UP;
            TwoSetMachine x = ready(word | 4, BASE);
            Check.dueStep("behind", x);
            Check.due("behind " + k, x.get(Check.SVC, 1), LOADED[k]);
            TwoSetMachine y = ready(word | EARLY | BACK | 4, BASE - 4);
            Check.dueStep("ahead", y);
            Check.due("ahead " + k, y.get(Check.SVC, 1), LOADED[k]);
        }
        // A store has no such thing: n is stored as it was, then written.
        TwoSetMachine x = ready(0xE4811004, BASE);
        Check.dueStep("STR r1, [r1], #4", x);
        Check.due("stored", x.peek(BASE), BASE);
        Check.due("n", x.get(Check.SVC, 1), BASE + 4);
    }

    private static void abortLeavesBase() {
        Check.sentence(SHARED, "With DABT n stays.");
        for (int place : new int[] {0x40000, -4, Integer.MIN_VALUE}) {
            for (int up = 0; up <= UP; up += UP) {
                int base = up != 0 ? place - 4 : place + 4;
                for (int word : LOADS) {
                    Check.dueFaultAlone("behind", ready(word | up | 4, place), 3, Check.ABT, 0x10, 0x208);
                    Check.dueFaultAlone("ahead", ready(word | EARLY | BACK | up | 4, base), 3, Check.ABT, 0x10, 0x208);
                }
                for (int word : STORES) {
                    Check.dueFaultAlone("behind", ready(word | up | 4, place), 3, Check.ABT, 0x10, 0x208);
                    Check.dueFaultAlone("ahead", ready(word | EARLY | BACK | up | 4, base), 3, Check.ABT, 0x10, 0x208);
                }
            }
        }
    }
}
