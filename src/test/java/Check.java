/** What all tests share: counting wrong answers, the calls that must throw, and short programs. */
final class Check {
    static final int USR = 0x10;
    static final int FIQ = 0x11;
    static final int IRQ = 0x12;
    static final int SVC = 0x13;
    static final int ABT = 0x17;
    static final int UND = 0x1B;
    static final int SYS = 0x1F;
    static final int[] MODES = {USR, FIQ, IRQ, SVC, ABT, UND, SYS};

    /** What a call threw, by name. */
    static final String NOTHING = "nothing";
    static final String ARGUMENT = "IllegalArgumentException";
    static final String INDEX = "IndexOutOfBoundsException";

    static final int START = 0x200;
    static final int N = 1 << 31;
    static final int Z = 1 << 30;
    static final int C = 1 << 29;
    static final int V = 1 << 28;

    private static int asked = 0;
    private static int wrong = 0;

    private Check() {
    }

    interface Call {
        void run();
    }

    static void due(String what, int got, int want) {
        asked++;
        if (got != want) {
            wrong++;
            System.out.printf("%s answered %d (0x%08X), due is %d (0x%08X)%n", what, got, got, want, want);
        }
    }

    static void due(String what, boolean got, boolean want) {
        due(what, got ? 1 : 0, want ? 1 : 0);
    }

    static void dueText(String what, String got, String want) {
        asked++;
        if (!got.equals(want)) {
            wrong++;
            System.out.printf("%s answered %s, due is %s%n", what, got, want);
        }
    }

    static void dueThrow(String what, Call call, String want) {
        String got = NOTHING;
        try {
            call.run();
        } catch (RuntimeException e) {
            got = e.getClass().getSimpleName();
        }
        dueText(what + " throws", got, want);
    }

    /** A machine in a mode with flags, I and F set, whose PC is at START, with these ARM words there. */
    static TwoSetMachine arm(int status, int... words) {
        TwoSetMachine x = new TwoSetMachine();
        x.status(status | 0xC0);
        for (int k = 0; k < words.length; k++) {
            x.poke(START + 4 * k, words[k]);
        }
        x.set(SVC, 15, START);
        return x;
    }

    /** The same in THUMB, with these halves. */
    static TwoSetMachine thumb(int status, int... halves) {
        TwoSetMachine x = new TwoSetMachine();
        x.status(status | 0xC0 | 0x20);
        for (int k = 0; k < halves.length; k++) {
            int address = START + 2 * k & ~3;
            int before = x.peek(address);
            x.poke(address, k % 2 == 0 ? before & ~0xFFFF | halves[k] : before & 0xFFFF | halves[k] << 16);
        }
        x.set(SVC, 15, START);
        return x;
    }

    /** One step that must be a fault of the kind, with its LR. */
    static void dueFault(String what, TwoSetMachine x, int kind, int mode, int vector, int link) {
        int before = x.count(7);
        int seen = x.count(kind);
        due(what + ": step", x.step(1), 1);
        due(what + ": count " + kind, x.count(kind), seen + 1);
        due(what + ": PC", x.get(mode, 15), vector);
        due(what + ": LR", x.get(mode, 14), link);
        due(what + ": CPSR", x.count(7), before & ~0x3F | mode | (kind == 5 ? 0xC0 : 0x80));
        due(what + ": SPSR", x.saved(mode, 0), before);
    }

    static void dueUndefined(String what, TwoSetMachine x) {
        int link = x.get(SVC, 15) + ((x.count(7) & 0x20) != 0 ? 2 : 4);
        dueFault(what, x, 0, UND, 4, link);
    }

    static void dueDataAbort(String what, TwoSetMachine x) {
        dueFault(what, x, 3, ABT, 0x10, x.get(SVC, 15) + 8);
    }

    /** One step without a fault. */
    static void dueStep(String what, TwoSetMachine x) {
        due(what + ": faults", x.step(1), 0);
    }

    static void end() {
        System.out.println(wrong == 0 ? "all " + asked + " answers are as due" : wrong + " answers are not as due");
        if (wrong != 0) {
            System.exit(1);
        }
    }
}
