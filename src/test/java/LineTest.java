/** Promise 8: line, and what the lines do to a step. */
public final class LineTest {
    private static final int NOP = 0xE1A00000;

    public static void main(String[] args) {
        answers();
        irq();
        fiq();
        both();
        inThumb();
        Check.end();
    }

    private static void answers() {
        TwoSetMachine x = new TwoSetMachine();
        Check.due("IRQ was off", x.line(0, true), false);
        Check.due("IRQ was on", x.line(0, true), true);
        Check.due("FIQ was off", x.line(1, true), false);
        Check.due("IRQ was on", x.line(0, false), true);
        Check.due("FIQ was on", x.line(1, false), true);
        Check.due("IRQ was off", x.line(0, false), false);
        int[] wrong = {-1, 2, 3, Integer.MAX_VALUE, Integer.MIN_VALUE};
        for (int line : wrong) {
            Check.dueThrow("line(" + line + ")", () -> x.line(line, true), Check.INDEX);
        }
        Check.due("IRQ is still off", x.line(0, false), false);
        Check.due("FIQ is still off", x.line(1, false), false);
    }

    private static void irq() {
        TwoSetMachine x = Check.arm(Check.SVC, NOP, NOP);
        x.line(0, true);
        Check.dueStep("I is 1", x);
        Check.due("PC goes on", x.get(Check.SVC, 15), 0x204);
        x.status(Check.USR | 0x40 | Check.C);
        Check.dueFault("IRQ", x, 4, Check.IRQ, 0x18, 0x208);
        x.poke(0x18, NOP);
        Check.dueStep("I is 1 now", x);
        x.line(0, false);
        x.status(Check.SYS);
        Check.dueStep("off again", x);
        Check.due("no second IRQ", x.count(4), 1);
    }

    private static void fiq() {
        TwoSetMachine x = Check.arm(Check.SVC, NOP, NOP);
        x.line(1, true);
        Check.dueStep("F is 1", x);
        x.status(Check.SYS | 0x80 | Check.N);
        Check.dueFault("FIQ", x, 5, Check.FIQ, 0x1C, 0x208);
        x.poke(0x1C, NOP);
        Check.dueStep("F is 1 now", x);
    }

    private static void both() {
        TwoSetMachine x = Check.arm(Check.SVC, NOP);
        x.line(0, true);
        x.line(1, true);
        x.status(Check.USR);
        Check.dueFault("FIQ first", x, 5, Check.FIQ, 0x1C, 0x204);
        x.status(Check.USR | 0x40);
        Check.dueFault("IRQ when F is 1", x, 4, Check.IRQ, 0x18, 0x20);
        x.status(Check.IRQ | 0x80);
        Check.dueFault("FIQ while in IRQ", x, 5, Check.FIQ, 0x1C, 0x1C);
    }

    private static void inThumb() {
        TwoSetMachine x = Check.thumb(Check.SVC, 0x46C0, 0x46C0);
        x.step(1);
        x.line(0, true);
        x.status(Check.USR | 0x20);
        Check.dueFault("IRQ in THUMB", x, 4, Check.IRQ, 0x18, 0x206);
        x.set(Check.USR, 15, -4);
        x.status(Check.USR | 0x20);
        Check.dueFault("IRQ ahead of PABT", x, 4, Check.IRQ, 0x18, 0);
    }
}
