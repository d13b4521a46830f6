import java.util.Map;

/** FAULTS, sentence by sentence. */
public final class FaultSentencesTest {
    private static final int ARM_UND = 0xE6000010;
    private static final int ARM_SWI = 0xEF000000;
    private static final int ARM_NOP = 0xE1A00000;
    private static final int THUMB_UND = 0xDE00;
    private static final int THUMB_SWI = 0xDF00;

    public static void main(String[] args) {
        undefined();
        software();
        fetching();
        data();
        slowLine();
        fastLine();
        savedGetsCpsr();
        bitsOfCpsr();
        nothingElse();
        Check.end();
    }

    private static void undefined() {
        Check.sentence("FAULTS", "FAULTS: kind, mode, address where it goes on, what LR of the new mode gets:"
                + " 0 UND (undefined): UND, 4, the address behind the instruction;");
        for (int mode : Check.MODES) {
            Check.dueFault("ARM in " + mode, Check.arm(mode, ARM_UND), 0, Check.UND, 4, 0x204);
            Check.dueFault("THUMB in " + mode, Check.thumb(mode, THUMB_UND), 0, Check.UND, 4, 0x202);
            TwoSetMachine x = Check.thumb(mode, 0x46C0, THUMB_UND);
            x.step(1);
            Check.dueFault("THUMB, second half in " + mode, x, 0, Check.UND, 4, 0x204);
        }
        dueAtTheEnd(ARM_UND, 0, Check.UND, 4);
    }

    private static void software() {
        Check.sentence("FAULTS", "1 SWI: SVC, 8, likewise;");
        for (int mode : Check.MODES) {
            Check.dueFault("ARM in " + mode, Check.arm(mode, ARM_SWI), 1, Check.SVC, 8, 0x204);
            Check.dueFault("THUMB in " + mode, Check.thumb(mode, THUMB_SWI), 1, Check.SVC, 8, 0x202);
            TwoSetMachine x = Check.thumb(mode, 0x46C0, THUMB_SWI);
            x.step(1);
            Check.dueFault("THUMB, second half in " + mode, x, 1, Check.SVC, 8, 0x204);
        }
        dueAtTheEnd(ARM_SWI, 1, Check.SVC, 8);
    }

    /** The last word of memory: behind it there is none. */
    private static void dueAtTheEnd(int word, int kind, int mode, int vector) {
        TwoSetMachine x = new TwoSetMachine();
        x.poke(0x3FFFC, word);
        x.set(Check.SVC, 15, 0x3FFFC);
        Check.dueFault("at the end of memory", x, kind, mode, vector, 0x40000);
    }

    private static void fetching() {
        Check.sentence("FAULTS", "2 PABT (fetching): ABT, 0x0C, the instruction's address plus 4;");
        for (int mode : Check.MODES) {
            for (int place : new int[] {0x40000, 0x7FFFFFFC, 0x80000000, -8, -4}) {
                TwoSetMachine x = Check.arm(mode);
                x.set(mode, 15, place);
                Check.dueFault("ARM at " + place, x, 2, Check.ABT, 0x0C, place + 4);
                TwoSetMachine y = Check.thumb(mode);
                y.set(mode, 15, place);
                Check.dueFault("THUMB at " + place, y, 2, Check.ABT, 0x0C, place + 4);
                TwoSetMachine z = Check.thumb(mode);
                z.set(mode, 15, place + 2);
                Check.dueFault("THUMB at " + (place + 2), z, 2, Check.ABT, 0x0C, place + 6);
            }
        }
    }

    private static void data() {
        Check.sentence("FAULTS", "3 DABT (data): ABT, 0x10, plus 8;");
        for (int mode : Check.MODES) {
            // LDR r0, [r1]; in THUMB the same.
            TwoSetMachine x = Check.with(Check.arm(mode, 0xE5910000), mode, 0, -4);
            Check.dueFault("ARM in " + mode, x, 3, Check.ABT, 0x10, 0x208);
            TwoSetMachine y = Check.with(Check.thumb(mode, 0x6808), mode, 0, 0x40000);
            Check.dueFault("THUMB in " + mode, y, 3, Check.ABT, 0x10, 0x208);
            TwoSetMachine z = Check.with(Check.thumb(mode, 0x46C0, 0x6808), mode, 0, 0x40000);
            z.step(1);
            Check.dueFault("THUMB, second half in " + mode, z, 3, Check.ABT, 0x10, 0x20A);
        }
        TwoSetMachine x = new TwoSetMachine();
        x.poke(0x3FFFC, 0xE59F0000);
        x.set(Check.SVC, 15, 0x3FFFC);
        Check.dueFault("at the end of memory", x, 3, Check.ABT, 0x10, 0x40004);
    }

    private static void slowLine() {
        Check.sentence("FAULTS", "4 IRQ: IRQ, 0x18, that of the instruction that would be next plus 4;");
        dueLine(0, 4, Check.IRQ, 0x18);
    }

    private static void fastLine() {
        Check.sentence("FAULTS", "5 FIQ: FIQ, 0x1C, likewise.");
        dueLine(1, 5, Check.FIQ, 0x1C);
    }

    private static void dueLine(int line, int kind, int mode, int vector) {
        for (int from : Check.MODES) {
            for (int t = 0; t <= 0x20; t += 0x20) {
                for (int place : new int[] {0, 0x200, 0x3FFFC, 0x40000, 0x7FFFFFFC, -4}) {
                    TwoSetMachine x = new TwoSetMachine();
                    x.status(from | t);
                    x.line(line, true);
                    int next = t != 0 ? place + 2 : place;
                    x.set(from, 15, next);
                    Check.dueFault("from " + from + " at " + next, x, kind, mode, vector, next + 4);
                }
            }
        }
        // Behind a branch the instruction that would be next is where it leads.
        TwoSetMachine x = Check.arm(Check.SVC, 0xEA000010);
        x.status(Check.SVC);
        x.step(1);
        x.line(line, true);
        Check.dueFault("behind a branch", x, kind, mode, vector, 0x248 + 4);
    }

    private static void savedGetsCpsr() {
        Check.sentence("FAULTS", "SPSR of the new mode gets CPSR;");
        int[] modes = {Check.UND, Check.SVC, Check.ABT, Check.ABT, Check.IRQ, Check.FIQ};
        for (int from : Check.MODES) {
            for (int kind = 0; kind < 6; kind++) {
                for (int t = 0; t <= 0x20; t += 0x20) {
                    TwoSetMachine x = ready(kind, 0xA0000000 | t | from);
                    for (int mode : Check.MODES) {
                        if (Check.hasSaved(mode)) {
                            x.saved(mode, 0x77);
                        }
                    }
                    Map<String, Integer> before = Check.state(x);
                    Check.due("kind " + kind, x.step(1), 1);
                    String what = "kind " + kind + " from " + (from | t);
                    Check.due(what, x.saved(modes[kind], 0x77), 0xA0000000 | t | from);
                    Check.dueStays(what, x, before, "PC", "CPSR", Check.register(modes[kind], 14));
                }
            }
        }
    }

    /** One step leads to a fault of the kind, with CPSR as told. */
    private static TwoSetMachine ready(int kind, int status) {
        boolean thumb = (status & 0x20) != 0;
        int[] words = {ARM_UND, ARM_SWI, ARM_NOP, 0xE5910000, ARM_NOP, ARM_NOP};
        int[] halves = {THUMB_UND, THUMB_SWI, 0x46C0, 0x6808, 0x46C0, 0x46C0};
        TwoSetMachine x = thumb ? Check.thumb(Check.SVC, halves[kind]) : Check.arm(Check.SVC, words[kind]);
        x.line(0, kind == 4);
        x.line(1, kind == 5);
        x.set(Check.SVC, 1, -4);
        x.status(status);
        x.set(Check.SVC, 15, kind == 2 ? 0x40000 : 0x200);
        return x;
    }

    private static void bitsOfCpsr() {
        Check.sentence("FAULTS", "T is 0, I is 1, with FIQ F, too.");
        int[] modes = {Check.UND, Check.SVC, Check.ABT, Check.ABT, Check.IRQ, Check.FIQ};
        for (int kind = 0; kind < 6; kind++) {
            for (int bits = 0; bits < 8; bits++) {
                int status = 0x90000010 | bits << 5;
                boolean masked = kind == 4 && (bits & 4) != 0 || kind == 5 && (bits & 2) != 0;
                if (!masked) {
                    TwoSetMachine x = ready(kind, status);
                    x.step(1);
                    int f = kind == 5 ? 0x40 : status & 0x40;
                    Check.due("kind " + kind + " with bits " + bits, x.count(7), 0x90000080 | f | modes[kind]);
                }
            }
        }
    }

    private static void nothingElse() {
        Check.sentence("FAULTS", "An instruction with UND, PABT or DABT does nothing else.");
        // A test without flags; MULLS with d as n; a store of a sign, n written; SWP of r15.
        int[] undefined = {0xE1010002, 0xE0911291, 0xE1E120D4, 0xE101209F, ARM_UND, 0xFF000000};
        for (int word : undefined) {
            TwoSetMachine x = Check.with(Check.arm(Check.SYS | Check.Z, word), Check.SYS, 1, 0x800, 3, 4, 5, 6, 7);
            x.poke(0x800, 0x55);
            Check.dueFaultAlone(Integer.toHexString(word), x, 0, Check.UND, 4, 0x204);
            Check.due("memory stays", x.peek(0x800), 0x55);
        }
        // LDR and STR, n written ahead and behind; LDRH, STRH, SWP; LDM with bit 22.
        int[] aborted = {0xE5B12004, 0xE5A12004, 0xE4912004, 0xE4812004, 0xE0D120B4, 0xE0C120B4, 0xE1012093, 0xE1412093, 0xE8F1FFFF};
        for (int word : aborted) {
            TwoSetMachine x = Check.with(Check.arm(Check.SVC | Check.Z, word), Check.SVC, 1, 0x40000, 3, 4, 5, 6, 7);
            x.saved(Check.SVC, 0xF0000010);
            Check.dueFaultAlone(Integer.toHexString(word), x, 3, Check.ABT, 0x10, 0x208);
        }
        for (int half : new int[] {0x6848, 0x6048, 0x5E88, 0xC9FF, 0x9800, 0xBDFF}) {
            TwoSetMachine x = Check.with(Check.thumb(Check.SVC | Check.Z, half), Check.SVC, 1, 0x40000, 0, 4, 5, 6, 7);
            x.set(Check.SVC, 13, 0x40000);
            Check.dueFaultAlone(Integer.toHexString(half), x, 3, Check.ABT, 0x10, 0x208);
        }
        TwoSetMachine x = Check.with(Check.arm(Check.SYS | Check.C), Check.SYS, 1, 2, 3);
        x.set(Check.SYS, 15, 0x40000);
        Check.dueFaultAlone("PABT", x, 2, Check.ABT, 0x0C, 0x40004);
    }
}
