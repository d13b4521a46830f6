/** Promises 2 and 3, sentence by sentence, and which of several exceptions is thrown. */
public final class PokePeekSentencesTest {
    private static final int LAST = 262140;
    private static final int[] WORDS = {0, 1, -1, Integer.MIN_VALUE, Integer.MAX_VALUE, 0x12345678};
    private static final int[] UNEVEN = {1, 2, 3, 5, 6, 7, LAST - 1, LAST - 2, LAST - 3, LAST + 1, LAST + 2, LAST + 3};
    private static final int[] UNEVEN_OUTSIDE = {LAST + 5, LAST + 6, LAST + 7, -1, -2, -3, -5, 0x40000001, 0x80000002,
        Integer.MAX_VALUE, Integer.MIN_VALUE + 1};
    private static final int[] OUTSIDE = {LAST + 4, LAST + 8, -4, -8, -LAST - 4, 0x40000000, 0x7FFFFFFC, 0x80000000, 0xFFFC0000};

    public static void main(String[] args) {
        poke();
        pokeUneven();
        pokeOutside();
        peek();
        peekUneven();
        peekOutside();
        firstOfSeveral();
        Check.end();
    }

    private static void poke() {
        Check.sentence("Promise 2", "A word of memory is another one: what it was.");
        for (int address : new int[] {0, 4, 0x20000, LAST - 4, LAST}) {
            TwoSetMachine x = new TwoSetMachine();
            int before = 0;
            for (int word : WORDS) {
                Check.due("poke(" + address + ", " + word + ")", x.poke(address, word), before);
                before = word;
            }
            Check.due("the last one is there", x.peek(address), before);
            for (int other : new int[] {0, 4, 8, 0x1FFFC, 0x20000, 0x20004, LAST - 8, LAST - 4, LAST}) {
                Check.due("poke at " + address + ", peek(" + other + ")", x.peek(other), other == address ? before : 0);
            }
        }
        TwoSetMachine x = new TwoSetMachine();
        x.poke(0, 0xE3A00007);
        x.step(1);
        Check.due("what is poked is done as an instruction", x.get(Check.SVC, 0), 7);
    }

    private static void pokeUneven() {
        Check.sentence("Promise 2", "IllegalArgumentException, when 4 does not divide the address;");
        TwoSetMachine x = marked();
        for (int address : UNEVEN) {
            Check.dueThrow("poke(" + address + ", 1)", () -> x.poke(address, 1), Check.ARGUMENT);
        }
        dueMarked(x);
    }

    private static void pokeOutside() {
        Check.sentence("Promise 2", "IndexOutOfBoundsException, when there is no memory.");
        TwoSetMachine x = marked();
        for (int address : OUTSIDE) {
            Check.dueThrow("poke(" + address + ", 1)", () -> x.poke(address, 1), Check.INDEX);
        }
        dueMarked(x);
        Check.dueThrow("poke(0, 1)", () -> x.poke(0, 1), Check.NOTHING);
        Check.dueThrow("poke(262140, 1)", () -> x.poke(LAST, 1), Check.NOTHING);
    }

    private static TwoSetMachine marked() {
        TwoSetMachine x = new TwoSetMachine();
        for (int address : new int[] {0, 4, LAST - 4, LAST}) {
            x.poke(address, 0x5A5A5A00 + address);
        }
        return x;
    }

    private static void dueMarked(TwoSetMachine x) {
        for (int address : new int[] {0, 4, LAST - 4, LAST}) {
            Check.due("a refused call changes nothing at " + address, x.peek(address), 0x5A5A5A00 + address);
        }
    }

    private static void peek() {
        Check.sentence("Promise 3", "A word of memory.");
        for (int address : new int[] {0, 4, 0x20000, LAST - 4, LAST}) {
            TwoSetMachine x = new TwoSetMachine();
            Check.due("peek(" + address + ") at first", x.peek(address), 0);
            for (int word : WORDS) {
                x.poke(address, word);
                Check.due("peek(" + address + ")", x.peek(address), word);
                Check.due("peek(" + address + ") again", x.peek(address), word);
            }
        }
    }

    private static void peekUneven() {
        Check.sentence("Promise 3", "IllegalArgumentException, when 4 does not divide the address;");
        TwoSetMachine x = new TwoSetMachine();
        for (int address : UNEVEN) {
            Check.dueThrow("peek(" + address + ")", () -> x.peek(address), Check.ARGUMENT);
        }
    }

    private static void peekOutside() {
        Check.sentence("Promise 3", "IndexOutOfBoundsException, when there is no memory.");
        TwoSetMachine x = new TwoSetMachine();
        for (int address : OUTSIDE) {
            Check.dueThrow("peek(" + address + ")", () -> x.peek(address), Check.INDEX);
        }
        Check.dueThrow("peek(0)", () -> x.peek(0), Check.NOTHING);
        Check.dueThrow("peek(262140)", () -> x.peek(LAST), Check.NOTHING);
    }

    private static void firstOfSeveral() {
        Check.sentence("Of several exceptions", "Of several exceptions the first one told is thrown.");
        TwoSetMachine x = marked();
        for (int address : UNEVEN_OUTSIDE) {
            Check.dueThrow("poke(" + address + ", 1)", () -> x.poke(address, 1), Check.ARGUMENT);
            Check.dueThrow("peek(" + address + ")", () -> x.peek(address), Check.ARGUMENT);
        }
        dueMarked(x);
        for (int mode : new int[] {0, 0x14, 0x20, -1, Integer.MIN_VALUE}) {
            for (int i : new int[] {-1, 16, Integer.MIN_VALUE, Integer.MAX_VALUE}) {
                Check.dueThrow("set(" + mode + ", " + i + ", 1)", () -> x.set(mode, i, 1), Check.ARGUMENT);
                Check.dueThrow("get(" + mode + ", " + i + ")", () -> x.get(mode, i), Check.ARGUMENT);
            }
        }
    }
}
