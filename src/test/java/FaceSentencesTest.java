import java.lang.reflect.Method;
import java.lang.reflect.Modifier;
import java.util.Map;

/** "What it is", "The public face" and "Not promised", sentence by sentence. */
public final class FaceSentencesTest {
    public static void main(String[] args) throws InterruptedException {
        whatItIs();
        theClass();
        theConstant();
        theConstructor();
        memoryCalls();
        registerCalls();
        statusCalls();
        stepCalls();
        freeInside();
        severalThreads();
        nothingBeyond();
        Check.end();
    }

    private static void whatItIs() {
        Check.sentence("An ARM processor", "An ARM processor (ARMv4T) with its two sets of instructions, banked registers, "
                + "seven modes and their vectors, beside 256 KB of memory; "
                + "all that it does is told here, also what its makers leave open.");
        bothSets();
        sevenModes();
        Check.due("the last of 256 KB", new TwoSetMachine().peek(256 * 1024 - 4), 0);
        Check.dueThrow("behind 256 KB", () -> new TwoSetMachine().peek(256 * 1024), Check.INDEX);
        laterArm();
        laterThumb();
    }

    private static void bothSets() {
        // BX r0 to THUMB; there ADD r1, #3 and BX r2 back to ARM; there ADD r1, r1, #4.
        TwoSetMachine x = Check.arm(Check.SVC, 0xE12FFF10, 0x47103103, 0xE2811004);
        Check.with(x, Check.SVC, Check.START + 5, 0, Check.START + 8);
        Check.due("faults", x.step(4), 0);
        Check.due("both sets have added", x.get(Check.SVC, 1), 7);
        Check.due("PC", x.get(Check.SVC, 15), Check.START + 12);
        Check.due("CPSR", x.count(7), 0xD3);
    }

    private static void sevenModes() {
        TwoSetMachine x = new TwoSetMachine();
        int modes = 0;
        for (int mode = -32; mode < 64; mode++) {
            modes += hasMode(x, mode) ? 1 : 0;
        }
        Check.due("modes", modes, 7);
    }

    private static boolean hasMode(TwoSetMachine x, int mode) {
        try {
            return x.get(mode, 0) == 0;
        } catch (IllegalArgumentException e) {
            return false;
        }
    }

    /** What ARMv5 and later ones have more. */
    private static void laterArm() {
        int[] words = {0xE12FFF31, 0xE16F1F12, 0xE1200070, 0xFA000000, 0xE1C200D0, 0xE1C200F0, 0xE1021053, 0xE1032182,
            0xF5D1F000, 0xE6BF1072, 0xE3001001, 0xEE010F10, 0xED910A00};
        for (int word : words) {
            Check.dueUndefined("0x" + Integer.toHexString(word), Check.with(Check.arm(Check.SVC, word), Check.SVC, 0, 256, 512));
        }
    }

    private static void laterThumb() {
        for (int half : new int[] {0x4788, 0xBE00, 0xE800, 0xEFFF, 0xB100, 0xBF00, 0xB200, 0xBA00, 0xB660}) {
            Check.dueUndefined("0x" + Integer.toHexString(half), Check.thumb(Check.SVC, half));
        }
    }

    private static void theClass() {
        Check.sentence("public final class", "public final class TwoSetMachine {");
        int modifiers = TwoSetMachine.class.getModifiers();
        Check.due("public", Modifier.isPublic(modifiers), true);
        Check.due("final", Modifier.isFinal(modifiers), true);
        Check.dueText("package", TwoSetMachine.class.getPackageName(), "");
        Check.dueText("extends", TwoSetMachine.class.getSuperclass().getSimpleName(), "Object");
        Check.due("interfaces", TwoSetMachine.class.getInterfaces().length, 0);
    }

    private static void theConstant() {
        Check.sentence("public static final int NONE", "public static final int NONE = -1;");
        Check.due("fields that are seen", TwoSetMachine.class.getFields().length, 1);
        Check.dueText("its declaration", TwoSetMachine.class.getFields()[0].toString(),
                "public static final int TwoSetMachine.NONE");
        Check.due("NONE", TwoSetMachine.NONE, -1);
    }

    private static void theConstructor() {
        Check.sentence("public TwoSetMachine", "public TwoSetMachine();");
        Check.due("constructors that are seen", TwoSetMachine.class.getConstructors().length, 1);
        Check.dueText("its declaration", TwoSetMachine.class.getConstructors()[0].toString(), "public TwoSetMachine()");
    }

    private static void memoryCalls() {
        Check.sentence("public int poke",
                "public int poke(int address, int word) throws IllegalArgumentException, IndexOutOfBoundsException;");
        dueDeclared("public int poke(int,int) throws IllegalArgumentException,IndexOutOfBoundsException");
        Check.sentence("public int peek",
                "public int peek(int address) throws IllegalArgumentException, IndexOutOfBoundsException;");
        dueDeclared("public int peek(int) throws IllegalArgumentException,IndexOutOfBoundsException");
    }

    private static void registerCalls() {
        Check.sentence("public void set",
                "public void set(int mode, int i, int v) throws IllegalArgumentException, IndexOutOfBoundsException;");
        dueDeclared("public void set(int,int,int) throws IllegalArgumentException,IndexOutOfBoundsException");
        Check.sentence("public int get",
                "public int get(int mode, int i) throws IllegalArgumentException, IndexOutOfBoundsException;");
        dueDeclared("public int get(int,int) throws IllegalArgumentException,IndexOutOfBoundsException");
    }

    private static void statusCalls() {
        Check.sentence("public int status", "public int status(int v);");
        dueDeclared("public int status(int)");
        Check.sentence("public int saved", "public int saved(int mode, int v) throws IllegalArgumentException;");
        dueDeclared("public int saved(int,int) throws IllegalArgumentException");
        Check.sentence("public boolean line", "public boolean line(int line, boolean on) throws IndexOutOfBoundsException;");
        dueDeclared("public boolean line(int,boolean) throws IndexOutOfBoundsException");
    }

    private static void stepCalls() {
        Check.sentence("public int step", "public int step(int n) throws IllegalArgumentException;");
        dueDeclared("public int step(int) throws IllegalArgumentException");
        Check.sentence("public int count", "public int count(int what) throws IndexOutOfBoundsException;");
        dueDeclared("public int count(int) throws IndexOutOfBoundsException");
    }

    /** Of all methods that are seen, one has this name, and it is declared so. */
    private static void dueDeclared(String want) {
        String name = want.substring(want.lastIndexOf(' ', want.indexOf('(')) + 1, want.indexOf('('));
        int found = 0;
        for (Method one : TwoSetMachine.class.getDeclaredMethods()) {
            if (one.getName().equals(name)) {
                found++;
                Check.dueText(name, one.toString().replace("TwoSetMachine.", "").replace("java.lang.", ""), want);
            }
        }
        Check.due("methods called " + name, found, 1);
    }

    private static void freeInside() {
        Check.sentence("How the state is held", "How the state is held inside the object is free, as are the speed of each call, "
                + "the text of toString and the behaviour of equals and hashCode.");
        // Free is what they answer, not what they do: they are no calls of the face.
        TwoSetMachine x = busy(3);
        Map<String, Integer> before = Check.state(x);
        Check.dueThrow("toString", () -> x.toString().length(), Check.NOTHING);
        Check.dueThrow("equals", () -> x.equals(busy(4)), Check.NOTHING);
        Check.dueThrow("hashCode", x::hashCode, Check.NOTHING);
        Check.dueStays("toString, equals and hashCode", x, before);
    }

    private static void severalThreads() throws InterruptedException {
        Check.sentence("How the state is held", "Use of one object from several threads at once is not promised to be safe.");
        // That of two objects is, since they have nothing in common.
        TwoSetMachine[] made = new TwoSetMachine[4];
        Thread[] threads = new Thread[made.length];
        for (int k = 0; k < made.length; k++) {
            int seed = k;
            threads[k] = new Thread(() -> made[seed] = busy(seed));
            threads[k].start();
        }
        for (int k = 0; k < made.length; k++) {
            threads[k].join();
            Check.dueText("object " + k, Check.state(made[k]).toString(), Check.state(busy(k)).toString());
        }
    }

    /** An object after a loop of 20000 steps with sums, shifts and stores, and a fault; others with another seed. */
    private static TwoSetMachine busy(int seed) {
        TwoSetMachine x = Check.arm(Check.FIQ, 0xE0900001, 0xE1A01FE1, 0xE0812000, 0xE5832000, 0xEAFFFFFA);
        Check.with(x, Check.FIQ, seed, 0x12345 + seed, 0, 0x3000 + 4 * seed);
        x.step(20000);
        x.poke(Check.START, 0xEF000000);
        x.step(5);
        return x;
    }

    private static void nothingBeyond() {
        Check.sentence("How the state is held", "Nothing is promised beyond the answers and state changes described above, "
                + "and nothing about an object after its 512th call.");
        TwoSetMachine x = busy(7);
        Map<String, Integer> before = Check.state(x);
        int stored = x.peek(0x301C);
        int steps = x.count(6);
        Check.dueThrow("poke", () -> x.poke(0x301D, 1), Check.ARGUMENT);
        Check.dueThrow("poke", () -> x.poke(262144, 1), Check.INDEX);
        Check.dueThrow("set", () -> x.set(0x14, 0, 1), Check.ARGUMENT);
        Check.dueThrow("set", () -> x.set(Check.FIQ, 16, 1), Check.INDEX);
        Check.dueThrow("saved", () -> x.saved(Check.USR, 1), Check.ARGUMENT);
        Check.dueThrow("line", () -> x.line(2, true), Check.INDEX);
        Check.dueThrow("step", () -> x.step(20001), Check.ARGUMENT);
        Check.dueThrow("count", () -> x.count(8), Check.INDEX);
        Check.dueStays("refused calls", x, before);
        Check.due("the stored word stays", x.peek(0x301C), stored);
        Check.due("no step was done", x.count(6), steps);
        Check.due("IRQ stays off", x.line(0, false), false);
        Check.due("FIQ stays off", x.line(1, false), false);
    }
}
