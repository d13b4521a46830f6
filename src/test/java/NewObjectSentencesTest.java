/** Promise 1, sentence by sentence, and what is told of an object as a whole. */
public final class NewObjectSentencesTest {
    private static final int WORDS_OF_ONE = 512;

    public static void main(String[] args) {
        memoryAllZero();
        allZeroAtFirst();
        nothingThere();
        usedForManyCalls();
        Check.end();
    }

    private static void memoryAllZero() {
        Check.sentence("Promise 1", "The state as told, memory all 0.");
        for (int part = 0; part < 262144; part += 4 * WORDS_OF_ONE) {
            TwoSetMachine x = new TwoSetMachine();
            for (int k = 0; k < WORDS_OF_ONE; k++) {
                Check.due("peek(" + (part + 4 * k) + ")", x.peek(part + 4 * k), 0);
            }
        }
        TwoSetMachine used = Check.with(new TwoSetMachine(), Check.SVC, 1, 2, 3);
        used.poke(0, -1);
        used.poke(262140, -1);
        used.line(0, true);
        used.saved(Check.IRQ, -1);
        used.status(Check.USR);
        used.step(5);
        TwoSetMachine x = new TwoSetMachine();
        Check.due("the first word beside a used object", x.peek(0), 0);
        Check.due("the last word beside a used object", x.peek(262140), 0);
        dueNew("beside a used object", x);
    }

    private static void allZeroAtFirst() {
        Check.sentence("MEMORY", "All is 0 at first, but CPSR: 0xD3 (SVC, I and F).");
        dueNew("new", new TwoSetMachine());
        TwoSetMachine x = new TwoSetMachine();
        Check.due("IRQ is off", x.line(0, true), false);
        Check.due("FIQ is off", x.line(1, true), false);
        Check.due("I and F keep both lines away", x.step(1), 0);
        Check.due("an instruction was done", x.get(Check.SVC, 15), 4);
        // MOV r13, #7: only SVC has it.
        TwoSetMachine y = new TwoSetMachine();
        y.poke(0, 0xE3A0D007);
        y.step(1);
        Check.due("r13 of SVC", y.get(Check.SVC, 13), 7);
        Check.due("r13 of USR", y.get(Check.USR, 13), 0);
    }

    private static void dueNew(String what, TwoSetMachine x) {
        for (int mode : Check.MODES) {
            for (int i = 0; i < 16; i++) {
                Check.due(what + ": get(" + mode + ", " + i + ")", x.get(mode, i), 0);
            }
            if (Check.hasSaved(mode)) {
                Check.due(what + ": saved(" + mode + ")", x.saved(mode, 0), 0);
            }
        }
        for (int k = 0; k < 7; k++) {
            Check.due(what + ": count(" + k + ")", x.count(k), 0);
        }
        Check.due(what + ": CPSR", x.count(7), 0xD3);
    }

    private static void nothingThere() {
        Check.sentence("The constants", "The constants: `NONE = -1`: Nothing there.");
        Check.due("NONE", TwoSetMachine.NONE, -1);
    }

    private static void usedForManyCalls() {
        Check.sentence("An object is used",
                "An object is used for at most 512 calls after it has been made; what later calls answer is free.");
        TwoSetMachine x = new TwoSetMachine();
        for (int k = 1; k < 512; k++) {
            Check.due("call " + k, x.poke(4 * k, k), 0);
        }
        Check.due("call 512", x.peek(4 * 511), 511);
        // B 0: the dearest calls, as many as there may be.
        TwoSetMachine y = new TwoSetMachine();
        y.poke(0, 0xEAFFFFFE);
        for (int k = 2; k < 512; k++) {
            Check.due("call " + k, y.step(20000), 0);
        }
        Check.due("call 512: all steps", y.count(6), 510 * 20000);
    }
}
