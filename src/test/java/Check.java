import java.util.List;
import java.util.Map;
import java.util.TreeMap;

/** What all tests share: counting wrong answers, the calls that must throw, and short programs. */
final class Check {
    static final int USR = 0x10;
    static final int FIQ = 0x11;
    static final int IRQ = 0x12;
    static final int SVC = 0x13;
    static final int ABT = 0x17;
    static final int UND = 0x1B;
    static final int SYS = 0x1F;
    static final int[] MODES = {USR, FIQ, IRQ, SVC, ABT, UND, SYS};

    /** What a call threw, by name. */
    static final String NOTHING = "nothing";
    static final String ARGUMENT = "IllegalArgumentException";
    static final String INDEX = "IndexOutOfBoundsException";

    static final int START = 0x200;
    static final int N = 1 << 31;
    static final int Z = 1 << 30;
    static final int C = 1 << 29;
    static final int V = 1 << 28;

    private static final int[] WITH_SPSR = {FIQ, IRQ, SVC, ABT, UND};

    private static int asked = 0;
    private static int wrong = 0;
    private static int sentences = 0;
    private static int askedBefore = 0;
    private static String sentence = "";

    private Check() {
    }

    interface Call {
        void run();
    }

    /**
     * The answers that follow are due by these words. They stand just so in that piece of the document
     * (told by its first words, or as "Promise 4"); SentencesTest sees to it that they do.
     */
    static void sentence(String piece, String words) {
        endSentence();
        sentence = piece.equals(words) ? "\"" + words + "\": " : piece + ", \"" + words + "\": ";
        sentences++;
        askedBefore = asked;
    }

    /** A sentence that is named and not tested would only seem to be safe. */
    private static void endSentence() {
        if (!sentence.isEmpty() && asked == askedBefore) {
            wrong++;
            System.out.println(sentence + "no answer was asked");
        }
    }

    static void due(String what, int got, int want) {
        asked++;
        if (got != want) {
            wrong++;
            System.out.printf("%s%s answered %d (0x%08X), due is %d (0x%08X)%n", sentence, what, got, got, want, want);
        }
    }

    static void due(String what, boolean got, boolean want) {
        due(what, got ? 1 : 0, want ? 1 : 0);
    }

    static void dueText(String what, String got, String want) {
        asked++;
        if (!got.equals(want)) {
            wrong++;
            System.out.printf("%s%s answered %s, due is %s%n", sentence, what, got, want);
        }
    }

    static void dueThrow(String what, Call call, String want) {
        String got = NOTHING;
        try {
            call.run();
        } catch (RuntimeException e) {
            got = e.getClass().getSimpleName();
        }
        dueText(what + " throws", got, want);
    }

    /** A machine in a mode with flags, I and F set, whose PC is at START, with these ARM words there. */
    static TwoSetMachine arm(int status, int... words) {
        TwoSetMachine x = new TwoSetMachine();
        x.status(status | 0xC0);
        for (int k = 0; k < words.length; k++) {
            x.poke(START + 4 * k, words[k]);
        }
        x.set(SVC, 15, START);
        return x;
    }

    /** The same in THUMB, with these halves. */
    static TwoSetMachine thumb(int status, int... halves) {
        TwoSetMachine x = new TwoSetMachine();
        x.status(status | 0xC0 | 0x20);
        for (int k = 0; k < halves.length; k++) {
            int address = START + 2 * k & ~3;
            int before = x.peek(address);
            x.poke(address, k % 2 == 0 ? before & ~0xFFFF | halves[k] : before & 0xFFFF | halves[k] << 16);
        }
        x.set(SVC, 15, START);
        return x;
    }

    /** r0, r1 and so on of a mode get these values. */
    static TwoSetMachine with(TwoSetMachine x, int mode, int... values) {
        for (int i = 0; i < values.length; i++) {
            x.set(mode, i, values[i]);
        }
        return x;
    }

    static boolean isMode(int number) {
        for (int one : MODES) {
            if (one == number) {
                return true;
            }
        }
        return false;
    }

    static boolean hasSaved(int mode) {
        return isMode(mode) && mode != USR && mode != SYS;
    }

    private static boolean isOwn(int mode, int i) {
        return mode == USR || mode == FIQ && i >= 8 && i < 15 || mode != SYS && (i == 13 || i == 14);
    }

    /** All registers of all modes, the SPSRs and CPSR, by name; takes 42 calls. */
    static Map<String, Integer> state(TwoSetMachine x) {
        Map<String, Integer> all = new TreeMap<>();
        for (int mode : MODES) {
            for (int i = 0; i < 16; i++) {
                if (isOwn(mode, i)) {
                    all.put(register(mode, i), x.get(mode, i));
                }
            }
        }
        for (int mode : WITH_SPSR) {
            int saved = x.saved(mode, 0);
            x.saved(mode, saved);
            all.put(savedOf(mode), saved);
        }
        all.put("CPSR", x.count(7));
        return all;
    }

    /** The name in state(): what USR and SYS have, others that have none of their own have, too. */
    static String register(int mode, int i) {
        return i == 15 ? "PC" : "r" + i + " of 0x" + Integer.toHexString(isOwn(mode, i) ? mode : USR);
    }

    static String savedOf(int mode) {
        return "SPSR of 0x" + Integer.toHexString(mode);
    }

    /** All but what is named is as it was. */
    static void dueStays(String what, TwoSetMachine x, Map<String, Integer> before, String... but) {
        Map<String, Integer> now = state(x);
        for (String name : now.keySet()) {
            if (!List.of(but).contains(name)) {
                due(what + ": " + name + " stays:", now.get(name), before.get(name));
            }
        }
    }

    /** One step that must be a fault of the kind and change nothing but what the fault itself does. */
    static void dueFaultAlone(String what, TwoSetMachine x, int kind, int mode, int vector, int link) {
        Map<String, Integer> before = state(x);
        dueFault(what, x, kind, mode, vector, link);
        dueStays(what, x, before, "PC", "CPSR", register(mode, 14), savedOf(mode));
    }

    /** One step that must be a fault of the kind, with its LR. */
    static void dueFault(String what, TwoSetMachine x, int kind, int mode, int vector, int link) {
        int before = x.count(7);
        int seen = x.count(kind);
        due(what + ": step", x.step(1), 1);
        due(what + ": count " + kind, x.count(kind), seen + 1);
        due(what + ": PC", x.get(mode, 15), vector);
        due(what + ": LR", x.get(mode, 14), link);
        due(what + ": CPSR", x.count(7), before & ~0x3F | mode | (kind == 5 ? 0xC0 : 0x80));
        due(what + ": SPSR", x.saved(mode, 0), before);
    }

    static void dueUndefined(String what, TwoSetMachine x) {
        int link = x.get(SVC, 15) + ((x.count(7) & 0x20) != 0 ? 2 : 4);
        dueFault(what, x, 0, UND, 4, link);
    }

    static void dueDataAbort(String what, TwoSetMachine x) {
        dueFault(what, x, 3, ABT, 0x10, x.get(SVC, 15) + 8);
    }

    /** One step without a fault. */
    static void dueStep(String what, TwoSetMachine x) {
        due(what + ": faults", x.step(1), 0);
    }

    static void end() {
        endSentence();
        String by = sentences == 0 ? "" : " by " + sentences + " sentences";
        System.out.println(wrong == 0 ? "all " + asked + " answers are as due" + by : wrong + " answers are not as due");
        if (wrong != 0) {
            System.exit(1);
        }
    }
}
