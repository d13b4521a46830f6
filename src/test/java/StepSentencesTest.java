/** A STEP, sentence by sentence. */
public final class StepSentencesTest {
    private static final int NOP = 0xE1A00000;
    private static final int THUMB_NOP = 0x46C0;

    public static void main(String[] args) {
        fastLine();
        slowLine();
        instruction();
        itsBytes();
        noMemory();
        goesOn();
        readAsOperand();
        written();
        Check.end();
    }

    /** Both lines as told, F and I as told: which fault a step at SWI is. */
    private static int kindOf(boolean irq, boolean fiq, int masks, int place) {
        TwoSetMachine x = new TwoSetMachine();
        x.poke(0x200, 0xEF000000);
        x.line(0, irq);
        x.line(1, fiq);
        x.status(Check.USR | masks);
        x.set(Check.USR, 15, place);
        x.step(1);
        for (int kind = 0; kind < 6; kind++) {
            if (x.count(kind) == 1) {
                return kind;
            }
        }
        return TwoSetMachine.NONE;
    }

    private static void fastLine() {
        Check.sentence("A STEP", "A STEP: when the FIQ line is on and F is 0, the fault FIQ;");
        for (int place : new int[] {0x200, 0x40000}) {
            for (int i = 0; i <= 0x80; i += 0x80) {
                Check.due("FIQ alone", kindOf(false, true, i, place), 5);
                Check.due("FIQ ahead of IRQ", kindOf(true, true, i, place), 5);
                Check.due("F is 1", kindOf(false, true, i | 0x40, place), place == 0x200 ? 1 : 2);
            }
        }
    }

    private static void slowLine() {
        Check.sentence("A STEP", "else when the IRQ line is on and I is 0, IRQ;");
        for (int place : new int[] {0x200, 0x40000}) {
            Check.due("IRQ alone", kindOf(true, false, 0, place), 4);
            Check.due("IRQ alone, F is 1", kindOf(true, false, 0x40, place), 4);
            Check.due("IRQ beside FIQ, F is 1", kindOf(true, true, 0x40, place), 4);
            Check.due("I is 1", kindOf(true, false, 0x80, place), place == 0x200 ? 1 : 2);
        }
    }

    private static void instruction() {
        Check.sentence("A STEP", "else the instruction at PC is done.");
        for (int masks = 0; masks <= 0xC0; masks += 0x40) {
            Check.due("no line is on, masks " + masks, kindOf(false, false, masks, 0x200), 1);
        }
        Check.due("both lines are on, I and F are 1", kindOf(true, true, 0xC0, 0x200), 1);
        for (int place : new int[] {0, 4, 0x1FFFC, 0x3FFFC}) {
            TwoSetMachine x = new TwoSetMachine();
            x.poke(place, 0xE2800001);
            x.set(Check.SVC, 15, place);
            Check.dueStep("ADD r0, r0, #1", x);
            Check.due("done once", x.get(Check.SVC, 0), 1);
            x.poke(place, 0xE2800010);
            x.set(Check.SVC, 15, place);
            Check.dueStep("ADD r0, r0, #16", x);
            Check.due("what is there now is done", x.get(Check.SVC, 0), 17);
        }
        // STR r1, [PC, #-4]: an instruction may change the one behind it.
        TwoSetMachine x = Check.with(Check.arm(Check.SVC, 0xE50F1004, 0xE3A00001), Check.SVC, 0, 0xE3A00002);
        x.step(2);
        Check.due("the changed one is done", x.get(Check.SVC, 0), 2);
    }

    private static void itsBytes() {
        Check.sentence("A STEP", "It has 4 bytes (2 with T), from PC with its lowest two bits (one) as 0;");
        for (int low = 0; low < 4; low++) {
            // MOV r0, #1 as a word; as halves MOV r0, #2 and MOV r0, #3.
            TwoSetMachine x = new TwoSetMachine();
            x.poke(0x200, 0xE3A00001);
            x.poke(0x204, 0xE3A00009);
            x.set(Check.SVC, 15, 0x200 | low);
            x.step(1);
            Check.due("ARM at " + low, x.get(Check.SVC, 0), 1);
            TwoSetMachine y = new TwoSetMachine();
            y.status(0xF3);
            y.poke(0x200, 0x20032002);
            y.set(Check.SVC, 15, 0x200 | low);
            y.step(1);
            Check.due("THUMB at " + low, y.get(Check.SVC, 0), low < 2 ? 2 : 3);
        }
    }

    private static void noMemory() {
        Check.sentence("A STEP", "PABT without memory there.");
        for (int place : new int[] {0x40000, 0x40004, 0x7FFFFFFC, 0x80000000, 0xFFFC0000, -4}) {
            TwoSetMachine x = new TwoSetMachine();
            x.set(Check.SVC, 15, place);
            Check.dueFault("ARM at " + place, x, 2, Check.ABT, 0x0C, place + 4);
            TwoSetMachine y = new TwoSetMachine();
            y.status(0xF3);
            y.set(Check.SVC, 15, place + 2);
            Check.dueFault("THUMB at " + (place + 2), y, 2, Check.ABT, 0x0C, place + 6);
        }
        TwoSetMachine x = new TwoSetMachine();
        x.poke(0x3FFFC, NOP);
        x.set(Check.SVC, 15, 0x3FFFC);
        Check.dueStep("the last word", x);
        Check.dueFault("behind the last word", x, 2, Check.ABT, 0x0C, 0x40004);
        TwoSetMachine y = new TwoSetMachine();
        y.status(0xF3);
        y.poke(0x3FFFC, THUMB_NOP << 16 | THUMB_NOP);
        y.set(Check.SVC, 15, 0x3FFFC);
        Check.due("the last two halves", y.step(2), 0);
        Check.dueFault("behind the last half", y, 2, Check.ABT, 0x0C, 0x40004);
        TwoSetMachine z = new TwoSetMachine();
        z.set(Check.SVC, 15, 0);
        Check.dueStep("the first word", z);
    }

    private static void goesOn() {
        Check.sentence("A STEP", "PC goes on behind it, if it is not written.");
        // MOV; a MOV whose condition is not so; TST with d as r15; STR, LDR, STM, MRS.
        for (int word : new int[] {NOP, 0x01A0F000, 0xE110F000, 0xE5810000, 0xE5910000, 0xE8810001, 0xE10F0000, 0xE8000000}) {
            TwoSetMachine x = Check.with(Check.arm(Check.SVC, word), Check.SVC, 0, 0x800);
            Check.dueStep(Integer.toHexString(word), x);
            Check.due("behind " + Integer.toHexString(word), x.get(Check.SVC, 15), 0x204);
        }
        for (int half : new int[] {THUMB_NOP, 0x2000, 0xD010, 0x6008, 0x6808, 0xC101, 0xF000, 0xB400}) {
            TwoSetMachine x = Check.with(Check.thumb(Check.SVC, half), Check.SVC, 0, 0x800);
            Check.dueStep(Integer.toHexString(half), x);
            Check.due("behind " + Integer.toHexString(half), x.get(Check.SVC, 15), 0x202);
        }
        // B to itself; MOV PC, r1 to where it is; LDR PC, [r2] likewise.
        for (int word : new int[] {0xEAFFFFFE, 0xE1A0F001, 0xE592F000}) {
            TwoSetMachine x = Check.with(Check.arm(Check.SVC, word), Check.SVC, 0, 0x200, 0x800);
            x.poke(0x800, 0x200);
            Check.due("no fault", x.step(3), 0);
            Check.due("written by " + Integer.toHexString(word), x.get(Check.SVC, 15), 0x200);
        }
    }

    private static void readAsOperand() {
        Check.sentence("A STEP", "READ as an operand, r15 is the instruction's address plus 8 (T: plus 4).");
        for (int place : new int[] {0, 0x200, 0x3FFFC}) {
            // MOV r0, PC; ADD r0, PC, #0; SUB r0, PC, r1; ORR r0, r1, PC, LSL #0
            for (int word : new int[] {0xE1A0000F, 0xE28F0000, 0xE04F0001, 0xE181000F}) {
                TwoSetMachine x = new TwoSetMachine();
                x.poke(place, word);
                x.set(Check.SVC, 15, place);
                Check.dueStep("ARM", x);
                Check.due(Integer.toHexString(word) + " at " + place, x.get(Check.SVC, 0), place + 8);
            }
            for (int low = 0; low < 4; low += 2) {
                TwoSetMachine x = new TwoSetMachine();
                x.status(0xF3);
                x.poke(place, 0x4678 << 16 | 0x4678);
                x.set(Check.SVC, 15, place + low);
                Check.dueStep("MOV r0, PC", x);
                Check.due("MOV r0, PC in THUMB at " + (place + low), x.get(Check.SVC, 0), place + low + 4);
            }
        }
    }

    private static void written() {
        Check.sentence("A STEP", "Written, its lowest two bits are 0 (T: the lowest one), but with BX.");
        for (int low = 0; low < 4; low++) {
            // MOV PC, r0; LDR PC, [r1]; LDMIA r1, {PC}; ADD PC, r0, #0
            for (int word : new int[] {0xE1A0F000, 0xE591F000, 0xE8918000, 0xE280F000}) {
                TwoSetMachine x = Check.with(Check.arm(Check.SVC, word), Check.SVC, 0x1000 | low, 0x800);
                x.poke(0x800, 0x1000 | low);
                Check.dueStep(Integer.toHexString(word), x);
                Check.due(Integer.toHexString(word) + " with " + low, x.get(Check.SVC, 15), 0x1000);
                Check.due("T stays", x.count(7), 0xD3);
            }
            // MOV PC, r0; POP {PC}
            for (int half : new int[] {0x4687, 0xBD00}) {
                TwoSetMachine x = Check.with(Check.thumb(Check.SVC, half), Check.SVC, 0x1000 | low);
                x.set(Check.SVC, 13, 0x800);
                x.poke(0x800, 0x1000 | low);
                Check.dueStep(Integer.toHexString(half), x);
                Check.due(Integer.toHexString(half) + " with " + low, x.get(Check.SVC, 15), 0x1000 | low & 2);
                Check.due("T stays", x.count(7), 0xF3);
            }
            TwoSetMachine x = Check.with(Check.arm(Check.SVC, 0xE12FFF10), Check.SVC, 0x1000 | low);
            x.step(1);
            Check.due("BX with " + low, x.get(Check.SVC, 15), low == 3 ? 0x1002 : 0x1000);
            TwoSetMachine y = Check.with(Check.thumb(Check.SVC, 0x4700), Check.SVC, 0x1000 | low);
            y.step(1);
            Check.due("BX in THUMB with " + low, y.get(Check.SVC, 15), low == 3 ? 0x1002 : 0x1000);
        }
    }
}
