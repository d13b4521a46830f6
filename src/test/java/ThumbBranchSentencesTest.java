import java.util.Map;

/** THUMB INSTRUCTIONS that branch, SWI and all others, sentence by sentence. */
public final class ThumbBranchSentencesTest {
    private static final String PIECE = "15 .. 12 12";

    public static void main(String[] args) {
        byCondition();
        always();
        linkFirst();
        linkSecond();
        others();
        Check.end();
    }

    private static TwoSetMachine at(int place, int status, int half) {
        TwoSetMachine x = new TwoSetMachine();
        x.status(status | 0x20);
        x.poke(place & ~3, (place & 2) != 0 ? half << 16 : half);
        x.set(Check.SVC, 15, place);
        return x;
    }

    private static void dueBranch(int place, int status, int half, int want) {
        TwoSetMachine x = at(place, status, half);
        Map<String, Integer> before = Check.state(x);
        String what = Integer.toHexString(half) + " at " + place + " with flags " + (status >>> 28);
        Check.dueStep(what, x);
        Check.due(what, x.get(Check.SVC, 15), want);
        Check.dueStays(what, x, before, "PC");
    }

    private static boolean holds(int condition, int flags) {
        boolean n = (flags & 8) != 0;
        boolean z = (flags & 4) != 0;
        boolean c = (flags & 2) != 0;
        boolean v = (flags & 1) != 0;
        boolean[] all = {z, !z, c, !c, n, !n, v, !v, c && !z, !c || z, n == v, n != v, !z && n == v, z || n != v};
        return all[condition];
    }

    private static void byCondition() {
        Check.sentence(PIECE, "13: BRANCH by condition 11 .. 8 to address + 4 + 2 * 7 .. 0 with sign; 14: UND; 15: SWI.");
        for (int flags = 0; flags < 16; flags++) {
            for (int condition = 0; condition < 14; condition++) {
                int want = holds(condition, flags) ? 0x204 + 0x20 : 0x202;
                dueBranch(0x200, flags << 28 | 0xD3, 0xD010 | condition << 8, want);
            }
        }
        int[] numbers = {0, 1, 0x7F, 0x80, 0xFE, 0xFF};
        int[] distances = {0, 2, 254, -256, -4, -2};
        for (int k = 0; k < numbers.length; k++) {
            for (int place : new int[] {0, 0x202, 0x3FFFE}) {
                dueBranch(place, Check.Z | 0xD3, 0xD000 | numbers[k], place + 4 + distances[k]);
                dueBranch(place, 0xD3, 0xD000 | numbers[k], place + 2);
            }
        }
        for (int flags = 0; flags < 16; flags++) {
            for (int number : new int[] {0, 1, 0x80, 0xFF}) {
                TwoSetMachine x = at(0x200, flags << 28 | 0xD3, 0xDE00 | number);
                Check.dueFaultAlone("14", x, 0, Check.UND, 4, 0x202);
                TwoSetMachine y = at(0x200, flags << 28 | 0xD0, 0xDF00 | number);
                Check.dueFaultAlone("15", y, 1, Check.SVC, 8, 0x202);
            }
        }
    }

    private static void always() {
        Check.sentence(PIECE, "15 .. 11 0x1C: to address + 4 + 2 * 10 .. 0 with sign.");
        int[] numbers = {0, 1, 0x3FF, 0x400, 0x7FE, 0x7FF};
        int[] distances = {0, 2, 2046, -2048, -4, -2};
        for (int k = 0; k < numbers.length; k++) {
            for (int place : new int[] {0, 0x202, 0x3FFFE}) {
                dueBranch(place, 0xD3, 0xE000 | numbers[k], place + 4 + distances[k]);
            }
        }
        // From 0 and down it goes round, to where there is no memory.
        TwoSetMachine x = at(0, 0xD3, 0xE400);
        Check.dueStep("from 0", x);
        Check.dueFault("from 0, down", x, 2, Check.ABT, 0x0C, -2044 + 4);
    }

    private static void linkFirst() {
        Check.sentence(PIECE, "0x1E: LR = address + 4 + 4096 * 10 .. 0 with sign.");
        int[] numbers = {0, 1, 0x3FF, 0x400, 0x7FF};
        int[] distances = {0, 0x1000, 0x3FF000, -0x400000, -0x1000};
        for (int mode : Check.MODES) {
            for (int k = 0; k < numbers.length; k++) {
                for (int place : new int[] {0, 0x202, 0x3FFFE}) {
                    TwoSetMachine x = at(place, mode, 0xF000 | numbers[k]);
                    Map<String, Integer> before = Check.state(x);
                    Check.dueStep("first half", x);
                    Check.due("LR of " + numbers[k] + " at " + place, x.get(mode, 14), place + 4 + distances[k]);
                    Check.due("PC goes on", x.get(mode, 15), place + 2);
                    Check.dueStays("first half", x, before, "PC", Check.register(mode, 14));
                }
            }
        }
    }

    private static void linkSecond() {
        Check.sentence(PIECE, "0x1F: PC = LR + 2 * 10 .. 0, LR = the address behind, with its lowest bit 1.");
        for (int mode : Check.MODES) {
            for (int number : new int[] {0, 1, 0x400, 0x7FF}) {
                for (int link : new int[] {0, 0x1000, 0x1001, 0x1003, -4, Integer.MAX_VALUE}) {
                    TwoSetMachine x = at(0x202, mode, 0xF800 | number);
                    x.set(mode, 14, link);
                    Map<String, Integer> before = Check.state(x);
                    Check.dueStep("second half", x);
                    Check.due("PC of " + number + " with LR " + link, x.get(mode, 15), link + 2 * number & ~1);
                    Check.due("LR", x.get(mode, 14), 0x205);
                    Check.dueStays("second half, T stays", x, before, "PC", Check.register(mode, 14));
                }
            }
        }
        // Both halves, as far as it goes up and down.
        TwoSetMachine x = Check.thumb(Check.SVC, 0xF3FF, 0xFFFF);
        x.step(2);
        Check.due("as far up as it goes", x.get(Check.SVC, 15), 0x204 + 0x3FF000 + 0xFFE);
        TwoSetMachine y = Check.thumb(Check.SVC, 0xF400, 0xF800);
        y.step(2);
        Check.due("as far down as it goes", y.get(Check.SVC, 15), 0x204 - 0x400000);
        TwoSetMachine z = at(0x3FFFE, 0xD3, 0xF800);
        z.step(1);
        Check.due("LR behind memory", z.get(Check.SVC, 14), 0x40001);
    }

    private static void others() {
        Check.sentence(PIECE, "All others: UND.");
        // 15 .. 11 0x1D; 15 .. 8 0xB1 .. 0xBF but for PUSH and POP.
        for (int half : new int[] {0xE800, 0xE801, 0xEABC, 0xEFFF, 0xB100, 0xB1FF, 0xB200, 0xB300, 0xB600, 0xB6FF, 0xB700, 0xB800,
            0xB900, 0xBA00, 0xBB00, 0xBBFF, 0xBE00, 0xBEFF, 0xBF00, 0xBFFF}) {
            for (int place = 0x200; place <= 0x202; place += 2) {
                TwoSetMachine x = at(place, Check.SYS | Check.C, half);
                Check.dueFaultAlone(Integer.toHexString(half), x, 0, Check.UND, 4, place + 2);
            }
        }
    }
}
