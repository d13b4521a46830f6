/** Promise 10: count. */
public final class CountTest {
    public static void main(String[] args) {
        TwoSetMachine x = new TwoSetMachine();
        x.poke(4, 0xEA00000D);      // B 0x40
        x.poke(8, 0xEA00000C);      // B 0x40
        x.poke(0x0C, 0xEA00000B);   // B 0x40
        x.poke(0x10, 0xEA00000A);   // B 0x40
        x.poke(0x18, 0xEA000008);   // B 0x40
        x.poke(0x1C, 0xEA000007);   // B 0x40
        int[] bodies = {0xE7F000F0, 0xEF000000, 0xE3E0F003, 0xE5100004};
        int[] lengths = {2, 2, 3, 2};
        int steps = 0;
        for (int kind = 0; kind < 4; kind++) {
            for (int times = 0; times <= kind; times++) {
                x.status(0xD3);
                x.set(Check.SVC, 0, 0);
                x.poke(0x40, bodies[kind]);
                x.set(Check.SVC, 15, 0x40);
                Check.due("faults of kind " + kind, x.step(lengths[kind]), 1);
                steps += lengths[kind];
            }
        }
        x.poke(0x40, 0xE1A00000);
        x.line(0, true);
        x.status(0x13);
        Check.due("IRQ", x.step(2), 1);
        x.line(1, true);
        x.status(0x13);
        Check.due("FIQ", x.step(2), 1);
        steps += 4;
        int[] want = {1, 2, 3, 4, 1, 1, steps};
        for (int what = 0; what <= 6; what++) {
            Check.due("count(" + what + ")", x.count(what), want[what]);
        }
        Check.due("CPSR", x.count(7), 0xD1);
        Check.due("count does not change CPSR", x.count(7), 0xD1);
        int[] wrong = {-1, 8, 9, Integer.MAX_VALUE, Integer.MIN_VALUE};
        for (int what : wrong) {
            Check.dueThrow("count(" + what + ")", () -> x.count(what), Check.INDEX);
        }
        x.step(20000);
        x.step(20000);
        Check.due("steps in all", x.count(6), steps + 40000);
        Check.dueThrow("a step call that is refused", () -> x.step(20001), Check.ARGUMENT);
        Check.due("steps in all as before", x.count(6), steps + 40000);
        Check.end();
    }
}
