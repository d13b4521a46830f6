/** Promise 1: a new object. */
public final class NewObjectTest {
    public static void main(String[] args) {
        TwoSetMachine x = new TwoSetMachine();
        Check.due("NONE", TwoSetMachine.NONE, -1);
        memoryIsZero();
        for (int mode : Check.MODES) {
            for (int i = 0; i <= 15; i++) {
                Check.due("get(" + mode + ", " + i + ")", x.get(mode, i), 0);
            }
        }
        for (int mode : new int[] {Check.FIQ, Check.IRQ, Check.SVC, Check.ABT, Check.UND}) {
            Check.due("saved(" + mode + ")", x.saved(mode, 0), 0);
        }
        for (int what = 0; what <= 6; what++) {
            Check.due("count(" + what + ")", x.count(what), 0);
        }
        Check.due("count(7)", x.count(7), 0xD3);
        Check.due("line(0)", x.line(0, false), false);
        Check.due("line(1)", x.line(1, false), false);
        twoObjectsAreApart();
        Check.end();
    }

    /** A new object for each part: one object is good for 512 calls. */
    private static void memoryIsZero() {
        for (int part = 0; part < 262144; part += 2048) {
            TwoSetMachine x = new TwoSetMachine();
            for (int address = part; address < part + 2048; address += 4) {
                Check.due("peek(" + address + ")", x.peek(address), 0);
            }
        }
    }

    private static void twoObjectsAreApart() {
        TwoSetMachine one = new TwoSetMachine();
        TwoSetMachine other = new TwoSetMachine();
        one.poke(16, 5);
        one.set(Check.SVC, 3, 7);
        one.status(Check.USR);
        one.saved(Check.IRQ, 1);
        one.line(0, true);
        one.step(3);
        Check.due("memory of the other", other.peek(16), 0);
        Check.due("register of the other", other.get(Check.SVC, 3), 0);
        Check.due("CPSR of the other", other.count(7), 0xD3);
        Check.due("SPSR of the other", other.saved(Check.IRQ, 0), 0);
        Check.due("line of the other", other.line(0, false), false);
        Check.due("steps of the other", other.count(6), 0);
    }
}
