import java.util.Map;

/** ARM INSTRUCTIONS as a whole, BX, BRANCH, SWI and all others, sentence by sentence. */
public final class ArmBranchSentencesTest {
    public static void main(String[] args) {
        fieldsAndOrder();
        exchange();
        exchangeToArm();
        branch();
        branchWithLink();
        software();
        others();
        Check.end();
    }

    private static void fieldsAndOrder() {
        Check.sentence("ARM INSTRUCTIONS", "ARM INSTRUCTIONS (n, d, s, m being registers, or numbers of these, by bits 19 .. 16 n,"
                + " 15 .. 12 d, 11 .. 8 s, 3 .. 0 m), the first that fits:");
        // SUB d, n, m, LSL s
        for (int n = 0; n < 15; n++) {
            for (int d = 0; d < 15; d++) {
                int m = (n + d) % 15;
                int s = (n + 2 * d + 1) % 15;
                TwoSetMachine x = Check.arm(Check.SVC, 0xE0400010 | n << 16 | d << 12 | s << 8 | m);
                for (int i = 0; i < 15; i++) {
                    x.set(Check.SVC, i, i + 1);
                }
                Check.dueStep("SUB", x);
                String what = "SUB r" + d + ", r" + n + ", r" + m + ", LSL r" + s;
                Check.due(what, x.get(Check.SVC, d), n + 1 - (m + 1 << s + 1));
            }
        }
        // Each of these would be another one of those behind it, UND most of all.
        TwoSetMachine exchange = Check.with(Check.arm(Check.SVC, 0xE12FFF10), Check.SVC, 0x1000);
        Check.dueStep("BX, not DATA", exchange);
        Check.due("BX, not DATA", exchange.get(Check.SVC, 15), 0x1000);
        TwoSetMachine multiply = Check.with(Check.arm(Check.SVC, 0xE0020190), Check.SVC, 3, 5);
        Check.dueStep("MUL, not DATA", multiply);
        Check.due("MUL, not DATA", multiply.get(Check.SVC, 2), 15);
        TwoSetMachine swap = Check.with(Check.arm(Check.SVC, 0xE1002091), Check.SVC, 0x800, 5);
        Check.dueStep("SWP, not DATA", swap);
        Check.due("SWP, not DATA", swap.peek(0x800), 5);
        TwoSetMachine halves = Check.with(Check.arm(Check.SVC, 0xE1C010B0), Check.SVC, 0x800, 5);
        Check.dueStep("STRH, not DATA", halves);
        Check.due("STRH, not DATA", halves.peek(0x800), 5);
        TwoSetMachine read = Check.arm(Check.SVC, 0xE10F2000);
        Check.dueStep("MRS, not DATA", read);
        Check.due("MRS, not DATA", read.get(Check.SVC, 2), 0xD3);
        TwoSetMachine write = Check.with(Check.arm(Check.SVC, 0xE128F000), Check.SVC, -1);
        Check.dueStep("MSR, not DATA", write);
        Check.due("MSR, not DATA", write.count(7), 0xF00000D3);
    }

    private static void exchange() {
        Check.sentence("BX", "BX: bits 27 .. 4 are 0x12FFF1: PC is m without its lowest bit, T is that bit");
        for (int m = 0; m < 15; m++) {
            for (int to : new int[] {1, 3, 0x1001, 0x3FFFF, 0x80000001, -1}) {
                TwoSetMachine x = Check.arm(Check.SVC | Check.Z, 0xE12FFF10 | m);
                x.set(Check.SVC, m, to);
                Map<String, Integer> before = Check.state(x);
                Check.dueStep("BX r" + m, x);
                Check.due("BX r" + m + " to " + to, x.get(Check.SVC, 15), to - 1);
                Check.due("T of BX to " + to, x.count(7), Check.Z | 0xF3);
                Check.dueStays("BX", x, before, "PC", "CPSR");
            }
        }
        exchangeInEachMode();
        // One bit other than of BX: a test without flags.
        for (int bit : new int[] {4, 5, 6, 7, 8, 9, 10, 11, 12, 13, 14, 15, 16, 17, 18, 19, 21, 22}) {
            Check.dueUndefined("no BX without its bit " + bit, Check.arm(Check.SVC, 0xE12FFF11 ^ 1 << bit));
        }
        // With bit 20 TEQ PC, r1, LSL PC; with bit 23 MOV PC, r1, LSL PC (by 0x0C).
        TwoSetMachine test = Check.with(Check.arm(Check.SVC, 0xE13FFF11), Check.SVC, 0, 1);
        Check.dueStep("no BX with bit 20", test);
        Check.due("no BX with bit 20: PC goes on", test.get(Check.SVC, 15), 0x204);
        TwoSetMachine move = Check.with(Check.arm(Check.SVC, 0xE1AFFF11), Check.SVC, 0, 1);
        Check.dueStep("no BX with bit 23", move);
        Check.due("no BX with bit 23: PC", move.get(Check.SVC, 15), 0x1000);
        Check.due("no BX with bit 23: T", move.count(7), 0xD3);
    }

    private static void exchangeInEachMode() {
        for (int mode : Check.MODES) {
            for (int low = 0; low < 2; low++) {
                TwoSetMachine x = Check.with(Check.arm(mode, 0xE12FFF10), mode, 0x1000 | low);
                Check.dueStep("BX", x);
                Check.due("CPSR of BX in " + mode, x.count(7), mode | 0xC0 | low << 5);
                TwoSetMachine y = Check.with(Check.thumb(mode, 0x4700), mode, 0x1000 | low);
                Check.dueStep("BX in THUMB", y);
                Check.due("CPSR of BX in THUMB in " + mode, y.count(7), mode | 0xC0 | low << 5);
            }
        }
    }

    private static void exchangeToArm() {
        Check.sentence("BX", "(with T 0 the lowest two bits of PC are 0).");
        for (int to : new int[] {0, 2, 0x1000, 0x1002, 0x3FFFE, 0x80000002, -2}) {
            TwoSetMachine x = Check.with(Check.arm(Check.SVC, 0xE12FFF10), Check.SVC, to);
            x.step(1);
            Check.due("BX to " + to, x.get(Check.SVC, 15), to & ~3);
            Check.due("T of BX to " + to, x.count(7), 0xD3);
            TwoSetMachine y = Check.with(Check.thumb(Check.SVC, 0x4700), Check.SVC, to);
            y.step(1);
            Check.due("BX from THUMB to " + to, y.get(Check.SVC, 15), to & ~3);
            Check.due("T of BX from THUMB to " + to, y.count(7), 0xD3);
        }
        TwoSetMachine x = Check.arm(Check.SVC, 0xE12FFF1F);
        x.step(1);
        Check.due("BX PC", x.get(Check.SVC, 15), 0x208);
        Check.due("T of BX PC", x.count(7), 0xD3);
    }

    private static final int[] DISTANCES = {0, 1, 0x10, 0x7FFFFF, 0x800000, 0xFFFFFE, 0xFFFFFF, 0xFFFF7E};

    private static int target(int from, int distance) {
        return from + 8 + 4 * (distance >= 0x800000 ? distance - 0x1000000 : distance);
    }

    private static void branch() {
        Check.sentence("BRANCH", "BRANCH: bits 27 .. 25 are 5: PC = address + 8 + 4 * bits 23 .. 0 with sign;");
        for (int distance : DISTANCES) {
            for (int from : new int[] {0, 0x200, 0x3FFFC}) {
                TwoSetMachine x = new TwoSetMachine();
                x.poke(from, 0xEA000000 | distance);
                x.set(Check.SVC, 15, from);
                x.set(Check.SVC, 14, 5);
                Map<String, Integer> before = Check.state(x);
                Check.dueStep("B", x);
                // From 0 and down it wraps to the end of all numbers, where there is no memory.
                int to = target(from, distance);
                Check.due("B " + distance + " from " + from, x.get(Check.SVC, 15), to);
                Check.dueStays("B", x, before, "PC");
                if (to < 0 || to >= 0x40000) {
                    Check.dueFault("where B led", x, 2, Check.ABT, 0x0C, to + 4);
                }
            }
        }
    }

    private static void branchWithLink() {
        Check.sentence("BRANCH", "with bit 24 LR is the address behind the instruction.");
        for (int mode : Check.MODES) {
            for (int distance : DISTANCES) {
                TwoSetMachine x = Check.arm(mode, 0xEB000000 | distance);
                Map<String, Integer> before = Check.state(x);
                Check.dueStep("BL", x);
                Check.due("BL " + distance, x.get(mode, 15), target(0x200, distance));
                Check.due("LR in " + mode, x.get(mode, 14), 0x204);
                Check.dueStays("BL", x, before, "PC", Check.register(mode, 14));
            }
        }
        TwoSetMachine x = new TwoSetMachine();
        x.poke(0x3FFFC, 0xEBFFFFFE);
        x.set(Check.SVC, 15, 0x3FFFC);
        x.step(1);
        Check.due("LR at the end of memory", x.get(Check.SVC, 14), 0x40000);
    }

    private static void software() {
        Check.sentence("BRANCH", "SWI: bits 27 .. 24 are 15.");
        for (int number : new int[] {0, 1, 0x10, 0x123456, 0xFFFFFF}) {
            TwoSetMachine x = Check.arm(Check.USR | Check.V, 0xEF000000 | number);
            Check.dueFaultAlone("SWI " + number, x, 1, Check.SVC, 8, 0x204);
        }
    }

    private static void others() {
        Check.sentence("BRANCH", "All others: UND.");
        // Bits 27 .. 25 are 6, or 7 with bit 24 0: what other processors give to their helpers.
        for (int high = 0xC; high < 0xF; high++) {
            for (int low : new int[] {0, 1, 0x10, 0x100000, 0x9A0000, 0x1F0F10, 0xFFFFFF}) {
                TwoSetMachine x = Check.arm(Check.SYS, 0xE0000000 | high << 24 | low);
                Check.dueFaultAlone(high + " with " + low, x, 0, Check.UND, 4, 0x204);
            }
        }
    }
}
