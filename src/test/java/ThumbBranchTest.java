/** Promise 9, THUMB: branches, SWI, and what is undefined. */
public final class ThumbBranchTest {
    public static void main(String[] args) {
        byCondition();
        always();
        withLink();
        faults();
        Check.end();
    }

    private static void dueBranch(int half, int want) {
        TwoSetMachine x = Check.thumb(Check.SVC | Check.Z, half);
        x.set(Check.SVC, 14, 5);
        Check.dueStep("branch", x);
        Check.due(Integer.toHexString(half), x.get(Check.SVC, 15), want);
        Check.due("LR stays", x.get(Check.SVC, 14), 5);
        Check.due("CPSR stays", x.count(7), Check.Z | 0xF3);
    }

    private static void byCondition() {
        dueBranch(0xD000, 0x204);
        dueBranch(0xD07F, 0x204 + 254);
        dueBranch(0xD080, 0x204 - 256);
        dueBranch(0xD0FE, 0x200);
        dueBranch(0xD1FE, 0x202);
    }

    private static void always() {
        dueBranch(0xE000, 0x204);
        dueBranch(0xE3FF, 0x204 + 2046);
        dueBranch(0xE400, 0x204 - 2048);
        dueBranch(0xE7FE, 0x200);
    }

    private static void withLink() {
        int[] first = {0xF000, 0xF001, 0xF3FF, 0xF400, 0xF7FF};
        int[] link = {0x204, 0x1204, 0x204 + 0x3FF000, 0x204 - 0x400000, 0x204 - 0x1000};
        for (int k = 0; k < first.length; k++) {
            TwoSetMachine x = Check.thumb(Check.SVC, first[k], 0xFFFF);
            Check.dueStep("BL, first half", x);
            Check.due("LR", x.get(Check.SVC, 14), link[k]);
            Check.due("PC goes on", x.get(Check.SVC, 15), 0x202);
            Check.dueStep("BL, second half", x);
            Check.due("PC", x.get(Check.SVC, 15), link[k] + 0xFFE);
            Check.due("LR behind", x.get(Check.SVC, 14), 0x205);
        }
        TwoSetMachine x = Check.thumb(Check.SVC, 0xF801);
        x.set(Check.SVC, 14, 0x1001);
        x.step(1);
        Check.due("an odd LR", x.get(Check.SVC, 15), 0x1002);
        Check.due("LR behind", x.get(Check.SVC, 14), 0x203);
        Check.due("T stays", x.count(7), 0xF3);
    }

    private static void faults() {
        int[] undefined = {0xDE00, 0xDEFF, 0xE800, 0xEFFF, 0xB100, 0xB200, 0xB300, 0xB600, 0xB700, 0xB800, 0xB900, 0xBA00, 0xBB00,
            0xBE00, 0xBF00, 0x4780, 0x47F8};
        for (int half : undefined) {
            Check.dueUndefined(Integer.toHexString(half), Check.thumb(Check.USR, half));
        }
        Check.dueFault("SWI", Check.thumb(Check.USR, 0xDF00), 1, Check.SVC, 8, 0x202);
        Check.dueFault("SWI", Check.thumb(Check.FIQ | Check.C, 0xDFFF), 1, Check.SVC, 8, 0x202);
    }
}
