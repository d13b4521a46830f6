import java.util.Map;

/** SWAP and HALVES, sentence by sentence; what HALVES shares with TRANSFER stands there. */
public final class ArmHalvesSentencesTest {
    private static final int WORD = 0x84A3C2F1;
    private static final int BASE = 0x800;

    public static void main(String[] args) {
        swap();
        swapProgramCounter();
        kinds();
        loadOrStore();
        offsets();
        lowestBit();
        Check.end();
    }

    private static TwoSetMachine ready(int word, int r1) {
        TwoSetMachine x = Check.with(Check.arm(Check.SVC, word), Check.SVC, 0, r1, 0xDDCCBBAA, 3);
        x.poke(BASE, WORD);
        x.poke(0x3FFFC, WORD);
        return x;
    }

    private static void swap() {
        Check.sentence("SWAP", "SWAP: bits 27 .. 23 are 2, 21 .. 20 are 0, 11 .. 4 are 9: a word (turned as with LDR),"
                + " or byte with bit 22, at n comes to d, m's goes there.");
        for (int place : new int[] {BASE, 0x3FFFC}) {
            for (int k = 0; k < 4; k++) {
                // SWP r3, r2, [r1]; SWPB
                TwoSetMachine x = ready(0xE1013092, place + k);
                Map<String, Integer> before = Check.state(x);
                Check.dueStep("SWP", x);
                Check.due("SWP at " + (place + k), x.get(Check.SVC, 3), Integer.rotateRight(WORD, 8 * k));
                Check.due("memory behind SWP", x.peek(place), 0xDDCCBBAA);
                Check.dueStays("SWP", x, before, "PC", Check.register(Check.SVC, 3));
                TwoSetMachine y = ready(0xE1413092, place + k);
                Check.dueStep("SWPB", y);
                Check.due("SWPB at " + (place + k), y.get(Check.SVC, 3), WORD >>> 8 * k & 0xFF);
                Check.due("memory behind SWPB", y.peek(place), WORD & ~(0xFF << 8 * k) | 0xAA << 8 * k);
                // d may be m; n may be d.
                TwoSetMachine z = ready(0xE1012092, place + k);
                Check.dueStep("SWP r2, r2, [r1]", z);
                Check.due("SWP r2, r2, [r1]", z.get(Check.SVC, 2), Integer.rotateRight(WORD, 8 * k));
                Check.due("memory", z.peek(place), 0xDDCCBBAA);
                TwoSetMachine v = ready(0xE1411091, place + k);
                Check.dueStep("SWPB r1, r1, [r1]", v);
                Check.due("SWPB r1, r1, [r1]", v.get(Check.SVC, 1), WORD >>> 8 * k & 0xFF);
                Check.due("memory", v.peek(place), WORD & ~(0xFF << 8 * k) | (place + k & 0xFF) << 8 * k);
            }
        }
        for (int place : new int[] {0x40000, 0x40003, -1, -4, Integer.MIN_VALUE}) {
            Check.dueFaultAlone("SWP at " + place, ready(0xE1013092, place), 3, Check.ABT, 0x10, 0x208);
            Check.dueFaultAlone("SWPB at " + place, ready(0xE1413092, place), 3, Check.ABT, 0x10, 0x208);
        }
        // One bit other: DATA with bits 7 and 4, or a test without flags.
        for (int bit : new int[] {4, 7, 8, 9, 10, 11, 20, 21, 23}) {
            Check.dueUndefined("no SWP without its bit " + bit, ready(0xE1013092 ^ 1 << bit, BASE));
            Check.dueUndefined("no SWPB without its bit " + bit, ready(0xE1413092 ^ 1 << bit, BASE));
        }
    }

    private static void swapProgramCounter() {
        Check.sentence("SWAP", "UND, when n, d or m is r15.");
        for (int kind : new int[] {0xE1013092, 0xE1413092}) {
            for (int field : new int[] {0x000F0000, 0x0000F000, 0x0000000F, 0x000FF00F}) {
                for (int place : new int[] {BASE, -4}) {
                    TwoSetMachine x = ready(kind | field, place);
                    Check.dueFaultAlone(Integer.toHexString(kind | field), x, 0, Check.UND, 4, 0x204);
                    Check.due("memory stays", x.peek(BASE), WORD);
                }
            }
        }
    }

    private static void kinds() {
        Check.sentence("HALVES", "HALVES: bits 27 .. 25 0, bit 7 and 4 are 1, bits 6 .. 5 are not 0: 1 a half (H),"
                + " 2 a byte with its sign (SB), 3 a half with its sign (SH).");
        int[] words = {0, 0x80, 0x7F, 0x8000, 0x7FFF, 0xFFFF, 0x1234, 0xFF00};
        for (int half : words) {
            for (int k = 0; k < 2; k++) {
                // LDRH, LDRSB, LDRSH r0, [r1] at the lower and the higher half
                int[] want = {half, (byte) half, (short) half};
                for (int kind = 1; kind < 4; kind++) {
                    TwoSetMachine x = ready(0xE1D10090 | kind << 5, BASE + 2 * k);
                    x.poke(BASE, k == 0 ? half | 0x55550000 : half << 16 | 0x5555);
                    Check.dueStep("kind " + kind, x);
                    Check.due("kind " + kind + " of " + half, x.get(Check.SVC, 0), want[kind - 1]);
                    Check.due("no flags", x.count(7), 0xD3);
                }
            }
        }
        for (int k = 0; k < 4; k++) {
            TwoSetMachine x = ready(0xE1D100D0, 0x3FFFC + k);
            Check.dueStep("LDRSB", x);
            Check.due("LDRSB at " + k, x.get(Check.SVC, 0), (byte) (WORD >>> 8 * k));
        }
    }

    private static void loadOrStore() {
        Check.sentence("HALVES", "Bit 20: load, else store (H alone; UND with 2 or 3).");
        TwoSetMachine x = ready(0xE1C120B0, BASE);
        Check.dueStep("STRH", x);
        Check.due("STRH r2, [r1]", x.peek(BASE), WORD & 0xFFFF0000 | 0xBBAA);
        TwoSetMachine y = ready(0xE1C120B2, BASE);
        Check.dueStep("STRH", y);
        Check.due("STRH r2, [r1, #2]", y.peek(BASE), WORD & 0xFFFF | 0xBBAA0000);
        TwoSetMachine z = ready(0xE1D120B0, BASE);
        Check.dueStep("LDRH", z);
        Check.due("LDRH does not store", z.peek(BASE), WORD);
        Check.due("LDRH r2, [r1]", z.get(Check.SVC, 2), WORD & 0xFFFF);
        for (int kind = 2; kind < 4; kind++) {
            for (int form = 0; form < 16; form++) {
                // All of bits 24 .. 21, with memory and without.
                for (int place : new int[] {BASE, -64}) {
                    int word = 0xE0012090 | kind << 5 | form << 21;
                    TwoSetMachine v = ready(word, place);
                    Check.dueFaultAlone(Integer.toHexString(word), v, 0, Check.UND, 4, 0x204);
                    Check.due("memory stays", v.peek(BASE), WORD);
                }
            }
        }
    }

    private static void offsets() {
        Check.sentence("HALVES", "The offset is m (bits 11 .. 8 are not asked), or (bit 22) 16 * bits 11 .. 8 + bits 3 .. 0,"
                + " taken away without bit 23, as of TRANSFER.");
        for (int offset : new int[] {0, 2, 14, 16, 32, 238, 240, 254}) {
            for (int up = 0; up < 2; up++) {
                int base = up == 1 ? BASE - offset : BASE + offset;
                // LDRH r0, [r1, #offset]
                int number = 0xE15100B0 | up << 23 | (offset & 0xF0) << 4 | offset & 15;
                TwoSetMachine x = ready(number, base);
                Check.dueStep("by a number", x);
                Check.due("by the number " + offset + ", bit 23 " + up, x.get(Check.SVC, 0), WORD & 0xFFFF);
                // LDRH r0, [r1, r3] with any bits 11 .. 8
                for (int s = 0; s < 16; s += 5) {
                    TwoSetMachine y = ready(0xE11100B3 | up << 23 | s << 8, base);
                    y.set(Check.SVC, 3, offset);
                    Check.dueStep("by a register", y);
                    Check.due("by a register, " + offset + ", bit 23 " + up, y.get(Check.SVC, 0), WORD & 0xFFFF);
                }
            }
        }
        // Offsets go round: -0x100 added, 0x80000000 taken away.
        TwoSetMachine x = ready(0xE19100B3, BASE + 0x100);
        x.set(Check.SVC, 3, -0x100);
        Check.dueStep("a negative offset", x);
        Check.due("a negative offset", x.get(Check.SVC, 0), WORD & 0xFFFF);
        TwoSetMachine y = ready(0xE11100B3, Integer.MIN_VALUE + BASE);
        y.set(Check.SVC, 3, Integer.MIN_VALUE);
        Check.dueStep("the farthest offset", y);
        Check.due("the farthest offset", y.get(Check.SVC, 0), WORD & 0xFFFF);
        // LDRH r0, [r1, PC]: an operand, plus 8.
        TwoSetMachine z = ready(0xE19100BF, BASE - 0x208);
        Check.dueStep("r15 as offset", z);
        Check.due("r15 as offset", z.get(Check.SVC, 0), WORD & 0xFFFF);
    }

    private static void lowestBit() {
        Check.sentence("HALVES", "The lowest address bit of a half is taken as 0.");
        for (int place : new int[] {BASE, 0x3FFFC}) {
            for (int k = 0; k < 4; k++) {
                int half = k < 2 ? WORD & 0xFFFF : WORD >>> 16;
                TwoSetMachine x = ready(0xE1D100B0, place + k);
                Check.dueStep("LDRH", x);
                Check.due("LDRH at " + (place + k), x.get(Check.SVC, 0), half);
                TwoSetMachine y = ready(0xE1D100F0, place + k);
                Check.dueStep("LDRSH", y);
                Check.due("LDRSH at " + (place + k), y.get(Check.SVC, 0), (short) half);
                TwoSetMachine z = ready(0xE1C120B0, place + k);
                Check.dueStep("STRH", z);
                int want = k < 2 ? WORD & 0xFFFF0000 | 0xBBAA : WORD & 0xFFFF | 0xBBAA0000;
                Check.due("STRH at " + (place + k), z.peek(place), want);
            }
        }
        for (int place : new int[] {0x40000, 0x40001, -1, -2}) {
            Check.dueFaultAlone("LDRH at " + place, ready(0xE1D100B0, place), 3, Check.ABT, 0x10, 0x208);
            Check.dueFaultAlone("LDRSH at " + place, ready(0xE1D100F0, place), 3, Check.ABT, 0x10, 0x208);
            Check.dueFaultAlone("STRH at " + place, ready(0xE1C120B0, place), 3, Check.ABT, 0x10, 0x208);
        }
        // What is written to n keeps the bit: LDRH r0, [r1], #2
        TwoSetMachine x = ready(0xE0D100B2, BASE + 1);
        Check.dueStep("LDRH, n written", x);
        Check.due("n", x.get(Check.SVC, 1), BASE + 3);
    }
}
