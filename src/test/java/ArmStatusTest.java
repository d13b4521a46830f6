/** Promise 9: MRS, MSR, BX, BRANCH, SWI and what is undefined. */
public final class ArmStatusTest {
    public static void main(String[] args) {
        reading();
        writingFlags();
        writingControl();
        writingSaved();
        notTheirForm();
        exchange();
        branch();
        others();
        Check.end();
    }

    private static boolean hasSaved(int mode) {
        return mode != Check.USR && mode != Check.SYS;
    }

    private static void reading() {
        for (int mode : Check.MODES) {
            TwoSetMachine x = Check.arm(mode | Check.C, 0xE10F0000, 0xE14F1000);
            if (hasSaved(mode)) {
                x.saved(mode, 0x500000A5);
            }
            Check.due("MRS", x.step(2), 0);
            int cpsr = mode | Check.C | 0xC0;
            Check.due("MRS CPSR in " + mode, x.get(mode, 0), cpsr);
            Check.due("MRS SPSR in " + mode, x.get(mode, 1), hasSaved(mode) ? 0x500000A5 : cpsr);
        }
        TwoSetMachine x = Check.arm(Check.SVC | Check.C, 0xE10FF000);
        x.step(1);
        Check.due("MRS PC", x.get(Check.SVC, 15), 0x200000D0);
    }

    private static void writingFlags() {
        for (int mode : Check.MODES) {
            TwoSetMachine x = Check.arm(mode, 0xE128F000, 0xE328F206, 0xE120F000);
            x.set(mode, 0, -1);
            x.step(1);
            Check.due("MSR CPSR_f, r0 in " + mode, x.count(7), 0xF00000C0 | mode);
            x.step(1);
            Check.due("MSR CPSR_f, number in " + mode, x.count(7), 0x600000C0 | mode);
            Check.dueStep("MSR of no field", x);
            Check.due("MSR of no field in " + mode, x.count(7), 0x600000C0 | mode);
        }
    }

    private static void writingControl() {
        for (int mode : Check.MODES) {
            for (int other = 0; other < 32; other++) {
                TwoSetMachine x = Check.arm(mode | Check.Z, 0xE121F000);
                x.set(mode, 0, 0xFFFFFF20 | other);
                Check.dueStep("MSR CPSR_c", x);
                boolean known = false;
                for (int one : Check.MODES) {
                    known |= one == other;
                }
                int want = mode == Check.USR ? Check.Z | 0xC0 | mode : Check.Z | (known ? other : mode);
                Check.due("MSR CPSR_c from " + mode + " to " + other, x.count(7), want);
                Check.due("PC goes on", x.get(Check.SVC, 15), 0x204);
            }
        }
        TwoSetMachine x = Check.arm(Check.SVC, 0xE12FF000);
        x.set(Check.SVC, 0, 0xAFFFFF92);
        x.step(1);
        Check.due("MSR CPSR_fsxc", x.count(7), 0xA0000092);
        for (int m = 0; m < 16; m++) {
            TwoSetMachine z = Check.arm(Check.SYS, 0xE128F000 | m, 0xE10F0000 | m << 12 & 0x7000);
            for (int i = 0; i < 15; i++) {
                z.set(Check.SYS, i, i << 28);
            }
            z.set(Check.SYS, 15, Check.START);
            z.step(1);
            Check.due("MSR CPSR_f, r" + m, z.count(7) & 0xF0000000, m == 15 ? 0 : m << 28);
            z.step(1);
            Check.due("MRS r" + (m & 7), z.get(Check.SYS, m & 7), z.count(7));
        }
        TwoSetMachine y = Check.arm(Check.SVC, 0xE321F01F);
        y.step(1);
        Check.due("MSR CPSR_c, #0x1F", y.count(7), 0x1F);
    }

    private static void writingSaved() {
        for (int mode : Check.MODES) {
            TwoSetMachine x = Check.arm(mode, 0xE168F000, 0xE161F000, 0xE369F4AA);
            x.set(mode, 0, 0xBFFFFF25);
            if (hasSaved(mode)) {
                x.saved(mode, 0x40000001);
            }
            x.step(1);
            Check.due("CPSR stays", x.count(7), mode | 0xC0);
            if (hasSaved(mode)) {
                Check.due("MSR SPSR_f", x.saved(mode, 0x40000001), 0xB0000001);
                x.step(1);
                Check.due("MSR SPSR_c, T and a mode that is none", x.saved(mode, 0), 0x40000025);
                x.step(1);
                Check.due("MSR SPSR_fc, number", x.saved(mode, 0), 0xA0000000);
            } else {
                x.step(2);
                Check.due("nothing in " + mode, x.count(7), mode | 0xC0);
            }
        }
    }

    private static void notTheirForm() {
        int[] words = {0xE10F0001, 0xE10E0000, 0xE12F0000, 0xE128F010, 0xE128F100, 0xE328E000, 0xE30F0000, 0xE300F000};
        for (int word : words) {
            Check.dueUndefined(Integer.toHexString(word), Check.arm(Check.SVC, word));
        }
    }

    private static void exchange() {
        int[] to = {0x400, 0x401, 0x402, 0x403, -1, -2};
        int[] pc = {0x400, 0x400, 0x400, 0x402, -2, -4};
        for (int k = 0; k < to.length; k++) {
            TwoSetMachine x = Check.arm(Check.SVC | Check.V, 0xE12FFF11);
            x.set(Check.SVC, 1, to[k]);
            Check.dueStep("BX", x);
            Check.due("PC of BX to " + to[k], x.get(Check.SVC, 15), pc[k]);
            Check.due("T of BX to " + to[k], x.count(7), Check.V | 0xD3 | ((to[k] & 1) != 0 ? 0x20 : 0));
        }
        for (int mode : Check.MODES) {
            TwoSetMachine y = Check.arm(mode, 0xE12FFF11, 0xE12FFF12);
            y.set(mode, 1, 0x204);
            y.set(mode, 2, 0x301);
            y.step(1);
            Check.due("CPSR of BX to ARM in " + mode, y.count(7), mode | 0xC0);
            y.step(1);
            Check.due("CPSR of BX to THUMB in " + mode, y.count(7), mode | 0xE0);
        }
        TwoSetMachine x = Check.arm(Check.SVC, 0xE12FFF1F);
        x.step(1);
        Check.due("BX PC", x.get(Check.SVC, 15), 0x208);
        Check.due("BX PC: T", x.count(7), 0xD3);
        int[] words = {0xE12FFE11, 0xE12FFF21, 0xE12FFF31, 0xE12EFF11};
        for (int word : words) {
            Check.dueUndefined("no BX: " + Integer.toHexString(word), Check.arm(Check.SVC, word));
        }
    }

    private static void branch() {
        int[] words = {0xEA000000, 0xEAFFFFFE, 0xEA7FFFFF, 0xEA800000, 0xEAFFFF7E};
        int[] to = {0x208, 0x200, 0x208 + 0x01FFFFFC, 0x208 - 0x02000000, 0};
        for (int k = 0; k < words.length; k++) {
            TwoSetMachine x = Check.arm(Check.SVC, words[k], 0);
            x.set(Check.SVC, 14, 5);
            Check.dueStep("B", x);
            Check.due("B", x.get(Check.SVC, 15), to[k]);
            Check.due("LR of B", x.get(Check.SVC, 14), 5);
            TwoSetMachine y = Check.arm(Check.IRQ, words[k] | 0x01000000);
            Check.dueStep("BL", y);
            Check.due("BL", y.get(Check.SVC, 15), to[k]);
            Check.due("LR of BL", y.get(Check.IRQ, 14), 0x204);
            Check.due("LR of others", y.get(Check.SVC, 14), 0);
        }
    }

    private static void others() {
        int[] words = {0xEC000000, 0xED900000, 0xEE000000, 0xEE000010, 0xEE100010, 0xE6000010, 0xE7FFFFFF, 0xF0000000, 0xFFFFFFFF};
        for (int word : words) {
            Check.dueUndefined(Integer.toHexString(word), Check.arm(Check.SVC, word));
        }
        Check.dueFault("SWI", Check.arm(Check.SYS, 0xEFFFFFFF), 1, Check.SVC, 8, 0x204);
    }
}
