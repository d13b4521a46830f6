import java.util.Map;

/** MANY, sentence by sentence. */
public final class ArmManySentencesTest {
    private static final String PIECE = "MANY";
    private static final int BASE = 0x800;
    private static final int EARLY = 1 << 24;
    private static final int UP = 1 << 23;
    private static final int MARKED = 1 << 22;
    private static final int BACK = 1 << 21;
    private static final int LOAD = 1 << 20;

    /** STM of nothing at r1, downwards, n the last place. */
    private static final int MANY = 0xE8010000;

    public static void main(String[] args) {
        lowestFirst();
        upwards();
        downwards();
        loadOrStore();
        moreOrLess();
        writtenBefore();
        writtenBehind();
        programCounterNotWritten();
        programCounterStored();
        restoring();
        notInUser();
        behindAllOthers();
        aheadOfProgramCounter();
        registersOfUser();
        noRegister();
        wordNotThere();
        Check.end();
    }

    /** r1 as told, the others 0x100 + i, memory round BASE 0x70000000 + its address. */
    private static TwoSetMachine ready(int mode, int word, int r1) {
        TwoSetMachine x = Check.arm(mode, word);
        for (int i = 0; i < 15; i++) {
            x.set(mode, i, 0x100 + i);
        }
        x.set(mode, 1, r1);
        for (int address = BASE - 64; address <= BASE + 64; address += 4) {
            x.poke(address, 0x70000000 + address);
        }
        return x;
    }

    private static void dueStored(String what, TwoSetMachine x, int lowest, int list) {
        int address = lowest;
        for (int i = 0; i < 15; i++) {
            if ((list >> i & 1) != 0) {
                Check.due(what + ": r" + i + " stored", x.peek(address), 0x100 + i);
                address += 4;
            }
        }
        Check.due(what + ": below", x.peek(lowest - 4), 0x70000000 + lowest - 4);
        Check.due(what + ": above", x.peek(address), 0x70000000 + address);
    }

    private static void dueLoaded(String what, TwoSetMachine x, int lowest, int list) {
        int address = lowest;
        for (int i = 0; i < 15; i++) {
            if ((list >> i & 1) != 0) {
                Check.due(what + ": r" + i + " loaded", x.get(Check.SVC, i), 0x70000000 + address);
                address += 4;
            } else if (i != 1) {
                Check.due(what + ": r" + i + " stays", x.get(Check.SVC, i), 0x100 + i);
            }
        }
    }

    private static void lowestFirst() {
        Check.sentence(PIECE, "MANY: bits 27 .. 25 are 4: registers by bits 15 .. 0, the lowest at the lowest address,"
                + " words (lowest bits as 0).");
        for (int k = 0; k < 4; k++) {
            for (int list : new int[] {0x0001, 0x4000, 0x4001, 0x0055, 0x7F00, 0x7FFD}) {
                TwoSetMachine x = ready(Check.SVC, MANY | UP | list, BASE + k);
                Check.dueStep("STM", x);
                dueStored("STM of " + list + " at " + k, x, BASE, list);
                TwoSetMachine y = ready(Check.SVC, MANY | UP | LOAD | list, BASE + k);
                Check.dueStep("LDM", y);
                dueLoaded("LDM of " + list + " at " + k + ", not turned", y, BASE, list);
                dueOtherWays(list, k);
            }
            // The last word, from an odd place.
            TwoSetMachine last = ready(Check.SVC, MANY | UP | LOAD | 4, 0x3FFFC + k);
            last.poke(0x3FFFC, 77);
            Check.dueStep("LDM of the last word", last);
            Check.due("LDM of the last word at " + k, last.get(Check.SVC, 2), 77);
        }
        TwoSetMachine x = ready(Check.SVC, MANY | UP | 2, BASE + 3);
        Check.dueStep("STM r1, {r1}", x);
        Check.due("the lowest bits are stored", x.peek(BASE), BASE + 3);
    }

    /** Downwards, and ahead upwards: the lowest one is at the lowest address, too. */
    private static void dueOtherWays(int list, int k) {
        int size = 4 * Integer.bitCount(list);
        int[] forms = {0, EARLY, UP | EARLY};
        int[] lowest = {BASE - size + 4, BASE - size, BASE + 4};
        for (int way = 0; way < forms.length; way++) {
            TwoSetMachine x = ready(Check.SVC, MANY | forms[way] | list, BASE + k);
            Check.dueStep("STM", x);
            dueStored("STM of " + list + " at " + k + ", way " + way, x, lowest[way], list);
            TwoSetMachine y = ready(Check.SVC, MANY | forms[way] | LOAD | list, BASE + k);
            Check.dueStep("LDM", y);
            dueLoaded("LDM of " + list + " at " + k + ", way " + way, y, lowest[way], list);
        }
    }

    /** All of {r2, r3, r5} from the lowest address, with n written and not. */
    private static void duePlaces(String what, int form, int base, int lowest) {
        for (int back = 0; back <= BACK; back += BACK) {
            TwoSetMachine x = ready(Check.SVC, MANY | form | back | 0x2C, base);
            Check.dueStep(what, x);
            dueStored(what + ": STM", x, lowest, 0x2C);
            TwoSetMachine y = ready(Check.SVC, MANY | form | back | LOAD | 0x2C, base);
            Check.dueStep(what, y);
            dueLoaded(what + ": LDM", y, lowest, 0x2C);
        }
    }

    private static void upwards() {
        Check.sentence(PIECE, "Upwards (bit 23) from n, or n + 4 (bit 24);");
        duePlaces("from n", UP, BASE, BASE);
        duePlaces("from n + 4", UP | EARLY, BASE, BASE + 4);
        // n + 4 goes round to 0; the last word; one too far.
        TwoSetMachine x = ready(Check.SVC, MANY | UP | EARLY | BACK | 0x2C, -4);
        Check.dueStep("from -4 + 4", x);
        Check.due("r2 at 0", x.peek(0), 0x102);
        Check.due("r5 at 8", x.peek(8), 0x105);
        Check.due("n", x.get(Check.SVC, 1), 8);
        TwoSetMachine y = ready(Check.SVC, MANY | UP | EARLY | 4, 0x3FFF8);
        Check.dueStep("the last word", y);
        Check.due("r2 in the last word", y.peek(0x3FFFC), 0x102);
        Check.dueDataAbort("n + 4 is too far", ready(Check.SVC, MANY | UP | EARLY | 4, 0x3FFFC));
        Check.dueDataAbort("n is too far", ready(Check.SVC, MANY | UP | 4, 0x40000));
    }

    private static void downwards() {
        Check.sentence(PIECE, "downwards so that they end at n - 4 (bit 24), or n.");
        duePlaces("end at n - 4", EARLY, BASE, BASE - 12);
        duePlaces("end at n", 0, BASE, BASE - 8);
        // n is behind memory, and need not be there with bit 24; n is 0.
        TwoSetMachine x = ready(Check.SVC, MANY | EARLY | BACK | 4, 0x40000);
        Check.dueStep("end at n - 4, the last word", x);
        Check.due("r2 in the last word", x.peek(0x3FFFC), 0x102);
        TwoSetMachine y = ready(Check.SVC, MANY | BACK | 4, 0);
        Check.dueStep("end at n, the first word", y);
        Check.due("r2 in the first word", y.peek(0), 0x102);
        Check.due("n goes round", y.get(Check.SVC, 1), -4);
        Check.dueDataAbort("n is behind memory", ready(Check.SVC, MANY | 4, 0x40000));
        Check.dueDataAbort("n - 4 is below 0", ready(Check.SVC, MANY | EARLY | 4, 0));
    }

    private static void loadOrStore() {
        Check.sentence(PIECE, "Bit 20: load, else store.");
        for (int list : new int[] {1, 0x2C, 0x7FFD}) {
            TwoSetMachine x = ready(Check.SVC, MANY | UP | list, BASE);
            Map<String, Integer> before = Check.state(x);
            Check.dueStep("STM", x);
            dueStored("STM", x, BASE, list);
            Check.dueStays("STM", x, before, "PC");
            TwoSetMachine y = ready(Check.SVC, MANY | UP | LOAD | list, BASE);
            Check.dueStep("LDM", y);
            dueLoaded("LDM", y, BASE, list);
            for (int address = BASE; address < BASE + 64; address += 4) {
                Check.due("LDM does not store", y.peek(address), 0x70000000 + address);
            }
            Check.due("LDM: CPSR", y.count(7), 0xD3);
        }
    }

    private static void moreOrLess() {
        Check.sentence(PIECE, "With bit 21 n is more or less by four times as many,");
        for (int list : new int[] {1, 0x2C, 0x7FFD}) {
            int size = 4 * Integer.bitCount(list);
            for (int form = 0; form < 4; form++) {
                for (int load = 0; load <= LOAD; load += LOAD) {
                    for (int k = 0; k < 4; k++) {
                        int word = MANY | form << 23 | load | list;
                        int moved = (form & 1) != 0 ? BASE + k + size : BASE + k - size;
                        TwoSetMachine x = ready(Check.SVC, word | BACK, BASE + k);
                        Check.dueStep("with bit 21", x);
                        Check.due("n with bit 21, form " + form, x.get(Check.SVC, 1), moved);
                        TwoSetMachine y = ready(Check.SVC, word, BASE + k);
                        Check.dueStep("without bit 21", y);
                        Check.due("n without bit 21, form " + form, y.get(Check.SVC, 1), BASE + k);
                    }
                }
            }
        }
        TwoSetMachine x = ready(Check.SVC, MANY | UP | BACK | LOAD | 1, 0x3FFFC);
        Check.dueStep("the last word", x);
        Check.due("n may be behind memory", x.get(Check.SVC, 1), 0x40000);
        // r15 is one of as many: LDMIA r1!, {r0, PC}
        TwoSetMachine y = ready(Check.SVC, MANY | UP | BACK | LOAD | 0x8001, BASE);
        Check.dueStep("with r15", y);
        Check.due("n with r15", y.get(Check.SVC, 1), BASE + 8);
    }

    private static void writtenBefore() {
        Check.sentence(PIECE, "written before what is loaded,");
        for (int list : new int[] {0x0002, 0x0003, 0x000E, 0x00FF}) {
            for (int form = 0; form < 4; form++) {
                TwoSetMachine x = ready(Check.SVC, MANY | form << 23 | BACK | LOAD | list, BASE);
                Check.dueStep("LDM with n", x);
                int size = 4 * Integer.bitCount(list);
                int[] lowest = {BASE - size + 4, BASE, BASE - size, BASE + 4};
                int place = lowest[form] + 4 * (list & 1);
                Check.due("n is what was loaded, form " + form, x.get(Check.SVC, 1), 0x70000000 + place);
            }
        }
    }

    private static void writtenBehind() {
        Check.sentence(PIECE, "behind what is stored (n in the list is stored as it was).");
        // n first in the list, in the midst of it, last.
        for (int list : new int[] {0x0002, 0x0006, 0x0007, 0x0003}) {
            for (int form = 0; form < 4; form++) {
                TwoSetMachine x = ready(Check.SVC, MANY | form << 23 | BACK | list, BASE);
                Check.dueStep("STM with n", x);
                int size = 4 * Integer.bitCount(list);
                int[] lowest = {BASE - size + 4, BASE, BASE - size, BASE + 4};
                int place = lowest[form] + 4 * (list & 1);
                Check.due("n is stored as it was, form " + form, x.peek(place), BASE);
                Check.due("n is written", x.get(Check.SVC, 1), (form & 1) != 0 ? BASE + size : BASE - size);
            }
        }
    }

    private static void programCounterNotWritten() {
        Check.sentence(PIECE, "n as r15 is not written.");
        // STMIA PC!, {r2}; LDMIA PC!, {r2}
        TwoSetMachine x = ready(Check.SVC, 0xE8AF0004, BASE);
        Check.dueStep("STM", x);
        Check.due("stored at address plus 8", x.peek(0x208), 0x102);
        Check.due("PC goes on", x.get(Check.SVC, 15), 0x204);
        TwoSetMachine y = ready(Check.SVC, 0xE8BF0004, BASE);
        y.poke(0x208, 77);
        Check.dueStep("LDM", y);
        Check.due("loaded from address plus 8", y.get(Check.SVC, 2), 77);
        Check.due("PC goes on", y.get(Check.SVC, 15), 0x204);
        // LDMIA PC!, {PC}: what is loaded is written.
        TwoSetMachine z = ready(Check.SVC, 0xE8BF8000, BASE);
        z.poke(0x208, 0x1000);
        Check.dueStep("LDM of PC", z);
        Check.due("PC is loaded", z.get(Check.SVC, 15), 0x1000);
    }

    private static void programCounterStored() {
        Check.sentence(PIECE, "r15 is stored as the address plus 12.");
        for (int marked = 0; marked <= MARKED; marked += MARKED) {
            TwoSetMachine x = ready(Check.SVC, MANY | UP | marked | 0x8001, BASE);
            Check.dueStep("STM", x);
            Check.due("r0", x.peek(BASE), 0x100);
            Check.due("r15", x.peek(BASE + 4), 0x20C);
            Check.due("PC goes on", x.get(Check.SVC, 15), 0x204);
        }
        TwoSetMachine x = new TwoSetMachine();
        x.poke(0x3FFFC, MANY | UP | 0x8000);
        x.set(Check.SVC, 15, 0x3FFFC);
        Check.dueStep("STM at the end", x);
        Check.due("r15 at the end", x.peek(0), 0x40008);
    }

    private static void restoring() {
        Check.sentence(PIECE, "Bit 22: a load with r15: CPSR is SPSR");
        for (int mode : Check.MODES) {
            if (Check.hasSaved(mode)) {
                for (int saved : new int[] {0x10, 0xF000001F, 0x600000D1, 0x8000005B}) {
                    TwoSetMachine x = ready(mode, MANY | UP | MARKED | LOAD | 0x8001, BASE);
                    x.saved(mode, saved);
                    Check.dueStep("LDM", x);
                    Check.due("CPSR from " + mode, x.count(7), saved);
                    Check.due("SPSR stays", x.saved(mode, 0), saved);
                    TwoSetMachine y = ready(mode, MANY | UP | LOAD | 0x8001, BASE);
                    y.saved(mode, saved);
                    Check.dueStep("LDM without bit 22", y);
                    Check.due("CPSR without bit 22", y.count(7), mode | 0xC0);
                    TwoSetMachine z = ready(mode, MANY | UP | MARKED | 0x8001, BASE);
                    z.saved(mode, saved);
                    Check.dueStep("STM with bit 22", z);
                    Check.due("CPSR behind STM", z.count(7), mode | 0xC0);
                }
            }
        }
    }

    private static void notInUser() {
        Check.sentence(PIECE, "(not in USR, SYS),");
        for (int mode : new int[] {Check.USR, Check.SYS}) {
            TwoSetMachine x = ready(mode, MANY | UP | MARKED | LOAD | 0xA001, BASE);
            x.poke(BASE + 8, 0x1003);
            Map<String, Integer> before = Check.state(x);
            Check.dueStep("LDM", x);
            Check.due("r0", x.get(mode, 0), 0x70000000 + BASE);
            Check.due("r13", x.get(mode, 13), 0x70000000 + BASE + 4);
            Check.due("PC", x.get(mode, 15), 0x1000);
            Check.dueStays("LDM", x, before, "PC", Check.register(mode, 0), Check.register(mode, 13));
        }
    }

    private static void behindAllOthers() {
        Check.sentence(PIECE, "behind all others,");
        // LDMIA r13!, {r8, r14, PC}^ in each mode: r8, r13, r14 are those of the mode that was.
        for (int mode : Check.MODES) {
            if (Check.hasSaved(mode)) {
                TwoSetMachine x = ready(mode, 0xE8FDC100, BASE);
                x.set(mode, 13, BASE);
                x.set(Check.USR, 13, 0x55);
                x.set(Check.USR, 14, 0x66);
                x.saved(mode, 0x10);
                Check.dueStep("LDM", x);
                Check.due("r8 of " + mode, x.get(mode, 8), 0x70000000 + BASE);
                Check.due("r14 of " + mode, x.get(mode, 14), 0x70000000 + BASE + 4);
                Check.due("r13 of " + mode, x.get(mode, 13), BASE + 12);
                Check.due("r13 of USR", x.get(Check.USR, 13), 0x55);
                Check.due("r14 of USR", x.get(Check.USR, 14), 0x66);
            }
        }
    }

    private static void aheadOfProgramCounter() {
        Check.sentence(PIECE, "ahead of PC;");
        for (int low = 0; low < 4; low++) {
            for (int t = 0; t <= 0x20; t += 0x20) {
                TwoSetMachine x = ready(Check.ABT, MANY | UP | MARKED | LOAD | 0x8000, BASE);
                x.poke(BASE, 0x1000 | low);
                x.saved(Check.ABT, 0x1F | t);
                Check.dueStep("LDM", x);
                Check.due("CPSR", x.count(7), 0x1F | t);
                Check.due("PC with T " + t + " and " + low, x.get(Check.SYS, 15), 0x1000 | (t == 0 ? 0 : low & 2));
            }
        }
    }

    private static void registersOfUser() {
        Check.sentence(PIECE, "else the registers of USR are meant.");
        for (int mode : Check.MODES) {
            // STMIA r1, {r7, r8, r12, r13, r14}^, and LDMIA
            int list = 0x7180;
            TwoSetMachine x = ready(mode, MANY | UP | MARKED | list, BASE);
            for (int i = 7; i < 15; i++) {
                x.set(mode, i, 0x500 + i);
                x.set(Check.USR, i, 0x900 + i);
            }
            Map<String, Integer> before = Check.state(x);
            Check.dueStep("STM", x);
            int[] registers = {7, 8, 12, 13, 14};
            for (int k = 0; k < registers.length; k++) {
                Check.due("r" + registers[k] + " of USR stored in " + mode, x.peek(BASE + 4 * k), 0x900 + registers[k]);
            }
            Check.dueStays("STM", x, before, "PC");
            TwoSetMachine y = ready(mode, MANY | UP | MARKED | LOAD | list, BASE);
            before = Check.state(y);
            Check.dueStep("LDM", y);
            for (int k = 0; k < registers.length; k++) {
                Check.due("r" + registers[k] + " of USR loaded in " + mode, y.get(Check.USR, registers[k]), 0x70000000 + BASE + 4 * k);
            }
            Check.dueStays("LDM", y, before, "PC", Check.register(Check.USR, 7), Check.register(Check.USR, 8),
                    Check.register(Check.USR, 12), Check.register(Check.USR, 13), Check.register(Check.USR, 14));
        }
        // n is that of the mode: STMDB r13!, {r13}^ in IRQ stores the one of USR.
        TwoSetMachine x = ready(Check.IRQ, 0xE96D2000, 0);
        x.set(Check.IRQ, 13, BASE);
        x.set(Check.USR, 13, 0x55);
        Check.dueStep("STM", x);
        Check.due("r13 of USR is stored", x.peek(BASE - 4), 0x55);
        Check.due("r13 of IRQ is n", x.get(Check.IRQ, 13), BASE - 4);
        Check.due("r13 of USR stays", x.get(Check.USR, 13), 0x55);
        TwoSetMachine y = ready(Check.IRQ, 0xE8FD6000, 0);
        y.set(Check.IRQ, 13, BASE);
        Check.dueStep("LDMIA r13!, {r13, r14}^", y);
        Check.due("r13 of USR is loaded", y.get(Check.USR, 13), 0x70000000 + BASE);
        Check.due("r14 of USR is loaded", y.get(Check.USR, 14), 0x70000000 + BASE + 4);
        Check.due("r13 of IRQ is n", y.get(Check.IRQ, 13), BASE + 8);
        Check.due("r14 of IRQ stays", y.get(Check.IRQ, 14), 0x10E);
    }

    private static void noRegister() {
        Check.sentence(PIECE, "No register: nothing is done.");
        for (int form = 0; form < 32; form++) {
            for (int base : new int[] {BASE, 0x40000, -4}) {
                TwoSetMachine x = ready(Check.SVC, MANY | form << 20, base);
                x.saved(Check.SVC, 0x10);
                Map<String, Integer> before = Check.state(x);
                Check.dueStep("form " + form, x);
                Check.dueStays("form " + form, x, before, "PC");
                Check.due("PC goes on", x.get(Check.SVC, 15), 0x204);
                Check.due("memory stays", x.peek(BASE), 0x70000000 + BASE);
                Check.due("memory stays", x.peek(BASE + 4), 0x70000000 + BASE + 4);
                Check.due("memory stays", x.peek(BASE - 4), 0x70000000 + BASE - 4);
            }
        }
    }

    private static void wordNotThere() {
        Check.sentence(PIECE, "When one word is not there: DABT, all registers stay, words below are stored.");
        // {r0, r2, r3, r4} over the end of memory, two words in it; upwards and downwards, all four ways.
        int[] bases = {0x3FFF8 + 12, 0x3FFF8, 0x3FFF8 + 16, 0x3FFF8 - 4};
        for (int form = 0; form < 4; form++) {
            for (int back = 0; back <= BACK; back += BACK) {
                int word = MANY | form << 23 | back | 0x1D;
                TwoSetMachine x = ready(Check.SVC, word, bases[form]);
                Check.dueFaultAlone("STM " + form, x, 3, Check.ABT, 0x10, 0x208);
                Check.due("r0 is stored", x.peek(0x3FFF8), 0x100);
                Check.due("r2 is stored", x.peek(0x3FFFC), 0x102);
                Check.due("nothing at 0", x.peek(0), 0);
                for (int marked = 0; marked <= MARKED; marked += MARKED) {
                    for (int pc = 0; pc <= 0x8000; pc += 0x8000) {
                        // With r15 there is one word more: the base of those downwards is higher by it.
                        int base = (form & 1) != 0 || pc == 0 ? bases[form] : bases[form] + 4;
                        TwoSetMachine y = ready(Check.SVC, word | LOAD | marked | pc, base);
                        y.saved(Check.SVC, 0x10);
                        y.poke(0x3FFF8, 0x1234);
                        Check.dueFaultAlone("LDM " + form, y, 3, Check.ABT, 0x10, 0x208);
                    }
                }
            }
        }
        // From below 0: the lowest word is not there, and nothing is below it.
        TwoSetMachine z = ready(Check.SVC, MANY | EARLY | BACK | 0x1D, 8);
        Check.dueFaultAlone("STM from below 0", z, 3, Check.ABT, 0x10, 0x208);
        Check.due("nothing at 0", z.peek(0), 0);
        Check.due("nothing at 4", z.peek(4), 0);
        TwoSetMachine v = ready(Check.SVC, MANY | EARLY | BACK | LOAD | 0x1D, 8);
        Check.dueFaultAlone("LDM from below 0", v, 3, Check.ABT, 0x10, 0x208);
        // All is outside; the last register alone is outside.
        Check.dueFaultAlone("STM outside", ready(Check.SVC, MANY | UP | BACK | 0x1D, 0x40000), 3, Check.ABT, 0x10, 0x208);
        TwoSetMachine w = ready(Check.SVC, MANY | UP | BACK | 0x1D, 0x3FFF4);
        Check.dueFaultAlone("STM, the last one outside", w, 3, Check.ABT, 0x10, 0x208);
        Check.due("the one before is stored", w.peek(0x3FFFC), 0x103);
        TwoSetMachine u = ready(Check.SVC, MANY | UP | BACK | 0x1D, 0x3FFF0);
        Check.dueStep("STM to the very end", u);
        Check.due("the last one is stored", u.peek(0x3FFFC), 0x104);
    }
}
