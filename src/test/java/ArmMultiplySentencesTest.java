import java.util.Map;

/** MULTIPLY, sentence by sentence. */
public final class ArmMultiplySentencesTest {
    private static final String PIECE = "MULTIPLY";
    private static final int[] VALUES = {0, 1, 2, -1, -2, 0x10000, Integer.MIN_VALUE, Integer.MAX_VALUE, 0xDEADBEEF};

    public static void main(String[] args) {
        ofWords();
        ofLongs();
        flags();
        programCounter();
        unknownKind();
        sameRegister();
        Check.end();
    }

    private static void ofWords() {
        Check.sentence(PIECE, "MULTIPLY: bits 27 .. 24 0, 7 .. 4 are 9, bit 23 is 0, 22 is 0: n = m * s, plus d with bit 21"
                + " (n is the register by bits 19 .. 16, d an operand).");
        for (int m : VALUES) {
            for (int s : VALUES) {
                // MUL r4, r1, r2 with r3 as d; MLA r4, r1, r2, r3
                TwoSetMachine x = Check.with(Check.arm(Check.SVC, 0xE0043291), Check.SVC, 0, m, s, 7, 9);
                Map<String, Integer> before = Check.state(x);
                Check.dueStep("MUL", x);
                Check.due("MUL of " + m + " and " + s, x.get(Check.SVC, 4), m * s);
                Check.dueStays("MUL", x, before, "PC", Check.register(Check.SVC, 4));
                for (int d : new int[] {0, 7, -1, Integer.MIN_VALUE}) {
                    TwoSetMachine y = Check.with(Check.arm(Check.SVC, 0xE0243291), Check.SVC, 0, m, s, d, 9);
                    Check.dueStep("MLA", y);
                    Check.due("MLA of " + m + " and " + s + " and " + d, y.get(Check.SVC, 4), m * s + d);
                    Check.due("d stays", y.get(Check.SVC, 3), d);
                }
            }
        }
        // n may be each of the others: MUL r1, r1, r1; MLA r1, r1, r1, r1
        TwoSetMachine x = Check.with(Check.arm(Check.SVC, 0xE0010191, 0xE0211191), Check.SVC, 0, 3);
        x.step(1);
        Check.due("MUL r1, r1, r1", x.get(Check.SVC, 1), 9);
        x.step(1);
        Check.due("MLA r1, r1, r1, r1", x.get(Check.SVC, 1), 90);
    }

    private static void dueLong(int word, int m, int s, long add, long want) {
        TwoSetMachine x = Check.with(Check.arm(Check.SVC, word), Check.SVC, 0, m, s, (int) add, (int) (add >>> 32));
        Map<String, Integer> before = Check.state(x);
        Check.dueStep("LONG", x);
        String what = Integer.toHexString(word) + " of " + m + " and " + s + " and " + add;
        Check.due(what + ": low", x.get(Check.SVC, 3), (int) want);
        Check.due(what + ": high", x.get(Check.SVC, 4), (int) (want >>> 32));
        Check.dueStays(what, x, before, "PC", Check.register(Check.SVC, 3), Check.register(Check.SVC, 4));
    }

    private static void ofLongs() {
        Check.sentence(PIECE, "Bit 23 is 1: LONG: d and n (low and high) = m * s with sign (bit 22) or without,"
                + " plus what they have with bit 21.");
        long[] adds = {0, 1, -1, 0xFFFFFFFFL, 0x100000000L, Long.MIN_VALUE, Long.MAX_VALUE};
        for (int m : VALUES) {
            for (int s : VALUES) {
                long unsigned = (m & 0xFFFFFFFFL) * (s & 0xFFFFFFFFL);
                long signed = (long) m * s;
                dueLong(0xE0843291, m, s, 0x5555555566666666L, unsigned);
                dueLong(0xE0C43291, m, s, 0x5555555566666666L, signed);
                for (long add : adds) {
                    // The sum goes round beyond 64 bits.
                    dueLong(0xE0A43291, m, s, add, unsigned + add);
                    dueLong(0xE0E43291, m, s, add, signed + add);
                }
            }
        }
    }

    private static void flags() {
        Check.sentence(PIECE, "With bit 20 N and Z are set (of 64 bits), C and V stay.");
        // UMULLS, SMULLS of r1 and r2: high alone, low alone, sign of high, sign of low alone.
        dueFlags(0xE0943291, 0, 5, Check.Z);
        dueFlags(0xE0943291, 0x10000, 0x10000, 0);
        dueFlags(0xE0943291, 0x8000, 0x10000, 0);
        dueFlags(0xE0943291, -1, -1, Check.N);
        dueFlags(0xE0943291, 1, 1, 0);
        dueFlags(0xE0D43291, 0, -1, Check.Z);
        dueFlags(0xE0D43291, -1, 1, Check.N);
        dueFlags(0xE0D43291, -1, -1, 0);
        dueFlags(0xE0D43291, Integer.MIN_VALUE, Integer.MIN_VALUE, 0);
        dueFlags(0xE0D43291, Integer.MIN_VALUE, 2, Check.N);
        // UMLALS with r3 and r4 as 0; MULS and MLAS of 32 bits.
        dueFlags(0xE0B43291, 0, 0, Check.Z);
        dueFlags(0xE0F43291, -1, 1, Check.N);
        dueFlags(0xE0143291, 0x10000, 0x10000, Check.Z);
        dueFlags(0xE0143291, 0x8000, 0x10000, Check.N);
        dueFlags(0xE0343291, 1, 1, 0);
        TwoSetMachine x = Check.with(Check.arm(Check.SVC, 0xE0B43291), Check.SVC, 0, 1, 1, -1, -1);
        x.step(1);
        Check.due("UMLALS to 0 beyond 64 bits", x.count(7), Check.Z | 0xD3);
    }

    private static void dueFlags(int word, int m, int s, int want) {
        for (int bits = 0; bits < 16; bits++) {
            int before = bits << 28;
            String what = Integer.toHexString(word) + " of " + m + " and " + s + " with flags " + bits;
            TwoSetMachine x = Check.with(Check.arm(Check.SVC | before, word), Check.SVC, 0, m, s, 0, 0);
            Check.dueStep(what, x);
            Check.due(what, x.count(7), want | before & (Check.C | Check.V) | 0xD3);
            TwoSetMachine y = Check.with(Check.arm(Check.SVC | before, word & ~(1 << 20)), Check.SVC, 0, m, s, 0, 0);
            Check.dueStep(what, y);
            Check.due(what + " without bit 20", y.count(7), before | 0xD3);
        }
    }

    private static final int[] KINDS = {0xE0000090, 0xE0100090, 0xE0200090, 0xE0300090, 0xE0800090, 0xE0900090, 0xE0A00090, 0xE0B00090,
        0xE0C00090, 0xE0D00090, 0xE0E00090, 0xE0F00090};

    private static void programCounter() {
        Check.sentence(PIECE, "UND, when any of n, d, s, m is r15 (d also when it is not asked),");
        for (int kind : KINDS) {
            int word = kind | 0x00043201;
            for (int field : new int[] {0x000F0000, 0x0000F000, 0x00000F00, 0x0000000F, 0x000FFF0F}) {
                TwoSetMachine x = Check.with(Check.arm(Check.SVC, word | field), Check.SVC, 1, 2, 3, 4, 5);
                Check.dueFaultAlone(Integer.toHexString(word | field), x, 0, Check.UND, 4, 0x204);
            }
            Check.dueStep("no r15", Check.arm(Check.SVC, word));
            // r14 is not yet one too many.
            Check.dueStep("r14", Check.arm(Check.SVC, kind | 0x000E0E0E));
        }
    }

    private static void unknownKind() {
        Check.sentence(PIECE, "bits 23 .. 22 are 1,");
        for (int low = 0; low < 4; low++) {
            TwoSetMachine x = Check.with(Check.arm(Check.SVC, 0xE0443291 | low << 20), Check.SVC, 1, 2, 3, 4, 5);
            Check.dueFaultAlone("bits 21 .. 20 are " + low, x, 0, Check.UND, 4, 0x204);
        }
    }

    private static void sameRegister() {
        Check.sentence(PIECE, "or d and n of LONG are one.");
        for (int kind : KINDS) {
            for (int i = 0; i < 15; i++) {
                int word = kind | i << 16 | i << 12 | 0x0201;
                TwoSetMachine x = Check.with(Check.arm(Check.SVC, word), Check.SVC, 1, 2, 3, 4, 5);
                if ((kind & 1 << 23) != 0) {
                    Check.dueFaultAlone(Integer.toHexString(word), x, 0, Check.UND, 4, 0x204);
                } else {
                    Check.dueStep("not of LONG", x);
                }
            }
        }
        // d or n may be m or s: UMULL r1, r2, r1, r2 (low and high).
        TwoSetMachine x = Check.with(Check.arm(Check.SVC, 0xE0821291), Check.SVC, 0, 0x10001, 0x30000);
        Check.dueStep("UMULL r1, r2, r1, r2", x);
        Check.due("low", x.get(Check.SVC, 1), 0x30000);
        Check.due("high", x.get(Check.SVC, 2), 3);
    }
}
