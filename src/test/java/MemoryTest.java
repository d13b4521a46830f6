/** Promises 2 and 3: poke and peek. */
public final class MemoryTest {
    public static void main(String[] args) {
        wordsAreKept();
        wrongAddresses();
        lowestByteFirst();
        Check.end();
    }

    private static void wordsAreKept() {
        // A new object for each part: one object is good for 512 calls.
        for (int part = 0; part < 262144; part += 1000) {
            TwoSetMachine y = new TwoSetMachine();
            int end = Math.min(part + 1000, 262144);
            for (int address = part; address < end; address += 4) {
                Check.due("poke(" + address + ")", y.poke(address, ~address), 0);
            }
            for (int address = part; address < end; address += 4) {
                Check.due("peek(" + address + ")", y.peek(address), ~address);
            }
        }
        TwoSetMachine x = new TwoSetMachine();
        x.poke(0, ~0);
        x.poke(4, ~4);
        x.poke(8, ~8);
        x.poke(262140, ~262140);
        Check.due("poke answers what was", x.poke(4, 9), ~4);
        Check.due("poke again", x.poke(4, Integer.MIN_VALUE), 9);
        Check.due("peek", x.peek(4), Integer.MIN_VALUE);
        Check.due("the word below", x.peek(0), ~0);
        Check.due("the word above", x.peek(8), ~8);
        Check.due("the last word", x.poke(262140, 1), ~262140);
        Check.due("the last word now", x.peek(262140), 1);
    }

    private static void wrongAddresses() {
        TwoSetMachine x = new TwoSetMachine();
        int[] odd = {1, 2, 3, -1, -2, -3, 262141, 262143, 262145, Integer.MAX_VALUE, Integer.MIN_VALUE + 1};
        for (int address : odd) {
            Check.dueThrow("poke(" + address + ")", () -> x.poke(address, 1), Check.ARGUMENT);
            Check.dueThrow("peek(" + address + ")", () -> x.peek(address), Check.ARGUMENT);
        }
        int[] none = {-4, 262144, 262148, Integer.MIN_VALUE, Integer.MAX_VALUE - 3, 0x40000000};
        for (int address : none) {
            Check.dueThrow("poke(" + address + ")", () -> x.poke(address, 1), Check.INDEX);
            Check.dueThrow("peek(" + address + ")", () -> x.peek(address), Check.INDEX);
        }
        Check.due("nothing was written at 0", x.peek(0), 0);
        Check.due("nothing was written at the end", x.peek(262140), 0);
    }

    private static void lowestByteFirst() {
        TwoSetMachine x = Check.arm(Check.SVC, 0xE5D01000, 0xE5D02003);
        x.poke(0x400, 0x11223344);
        x.set(Check.SVC, 0, 0x400);
        x.step(2);
        Check.due("byte 0", x.get(Check.SVC, 1), 0x44);
        Check.due("byte 3", x.get(Check.SVC, 2), 0x11);
    }
}
