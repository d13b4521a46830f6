import java.util.Map;

/** THUMB INSTRUCTIONS that load and store, sentence by sentence. */
public final class ThumbTransferSentencesTest {
    private static final String PIECE = "15 .. 11 9";
    private static final String STACK = "15 .. 12 10";
    private static final String MANY = "15 .. 12 12";
    private static final int WORD = 0x84A3C2F1;
    private static final int STORED = 0xDDCCBBAA;
    private static final int BASE = 0x800;

    public static void main(String[] args) {
        besideProgramCounter();
        byRegister();
        byNumber();
        halves();
        besideStackPointer();
        allAsWithArm();
        push();
        pop();
        asMany();
        storeAndLoadMany();
        Check.end();
    }

    /** r0 as STORED, r1 as told, r2 0. */
    private static TwoSetMachine ready(int half, int r1) {
        TwoSetMachine x = Check.with(Check.thumb(Check.SVC | Check.N, half), Check.SVC, STORED, r1, 0);
        x.poke(BASE, WORD);
        return x;
    }

    private static void dueLoaded(String what, TwoSetMachine x, int d, int want) {
        Map<String, Integer> before = Check.state(x);
        Check.dueStep(what, x);
        Check.due(what, x.get(Check.SVC, d), want);
        Check.dueStays(what, x, before, "PC", Check.register(Check.SVC, d));
    }

    private static void dueStored(String what, TwoSetMachine x, int want) {
        Map<String, Integer> before = Check.state(x);
        Check.dueStep(what, x);
        Check.due(what, x.peek(BASE), want);
        Check.due(what + ": below", x.peek(BASE - 4), 0);
        Check.due(what + ": above", x.peek(BASE + 4), 0);
        Check.dueStays(what, x, before, "PC");
    }

    private static void dueAbort(String what, TwoSetMachine x) {
        Check.dueFaultAlone(what, x, 3, Check.ABT, 0x10, x.get(Check.SVC, 15) + 8);
    }

    private static void besideProgramCounter() {
        Check.sentence(PIECE, "15 .. 11 9: b = word at (address + 4, lowest two bits 0) + 4 * 7 .. 0.");
        for (int b = 0; b < 8; b++) {
            for (int number : new int[] {0, 1, 0x7F, 0x80, 0xFF}) {
                for (int low = 0; low < 4; low += 2) {
                    TwoSetMachine x = Check.thumb(Check.SVC, 0x4800 | b << 8 | number, 0x4800 | b << 8 | number);
                    x.set(Check.SVC, 15, 0x200 + low);
                    x.poke(0x204 + 4 * number, WORD);
                    dueLoaded("LDR r" + b + ", [PC, " + number + "] at " + low, x, b, WORD);
                }
            }
        }
        // Just in memory, and just behind it.
        TwoSetMachine x = new TwoSetMachine();
        x.status(0xF3);
        x.poke(0x3FFF8, 0x4800);
        x.poke(0x3FFFC, WORD);
        x.set(Check.SVC, 15, 0x3FFF8);
        dueLoaded("the last word", x, 0, WORD);
        TwoSetMachine y = new TwoSetMachine();
        y.status(0xF3);
        y.poke(0x3FFFC, 0x4800 << 16);
        y.set(Check.SVC, 15, 0x3FFFE);
        dueAbort("behind the last word", y);
    }

    private static void byRegister() {
        Check.sentence(PIECE, "15 .. 12 5: with o 8 .. 6, at s + o, by 11 .. 9: STR STRH STRB LDSB LDR LDRH LDRB LDSH.");
        int[] want = {STORED, WORD & ~0xFFFF | 0xBBAA, WORD & ~0xFF | 0xAA, (byte) WORD, WORD, WORD & 0xFFFF, WORD & 0xFF, (short) WORD};
        for (int kind = 0; kind < 8; kind++) {
            for (int o : new int[] {0, 8, -8, Integer.MIN_VALUE}) {
                // OP r0, [r1, r2]
                TwoSetMachine x = ready(0x5088 | kind << 9, BASE - o);
                x.set(Check.SVC, 2, o);
                if (kind < 3) {
                    dueStored("kind " + kind + " with " + o, x, want[kind]);
                } else {
                    dueLoaded("kind " + kind + " with " + o, x, 0, want[kind]);
                }
            }
            for (int place : new int[] {0x40000, -2, Integer.MIN_VALUE}) {
                dueAbort("kind " + kind + " at " + place, ready(0x5088 | kind << 9, place));
            }
        }
        for (int o = 0; o < 8; o++) {
            // LDR r0, [r1, o]: each register as o
            TwoSetMachine x = ready(0x5808 | o << 6, 4);
            x.set(Check.SVC, o, o == 1 ? BASE / 2 : BASE - 4);
            dueLoaded("o is r" + o, x, 0, WORD);
            dueEachRegister("by a register", 0x5000 | o << 6, 0x5800 | o << 6, o);
        }
    }

    /** A store and a load with each d and s; o, if it is a register, is another one and is 0. */
    private static void dueEachRegister(String what, int store, int load, int o) {
        for (int d = 0; d < 8; d++) {
            for (int s = 0; s < 8; s++) {
                if (d != o && s != o) {
                    TwoSetMachine x = counted(store | s << 3 | d, 0);
                    TwoSetMachine y = counted(load | s << 3 | d, 0);
                    if (o >= 0) {
                        x.set(Check.SVC, o, 0);
                        y.set(Check.SVC, o, 0);
                    }
                    x.set(Check.SVC, s, BASE);
                    dueStored(what + ": r" + d + " at r" + s, x, d == s ? BASE : 0x100 + d);
                    y.set(Check.SVC, s, BASE);
                    y.poke(BASE, 0x5A5A);
                    dueLoaded(what + ": r" + d + " from r" + s, y, d, 0x5A5A);
                }
            }
        }
    }

    private static void byNumber() {
        Check.sentence(PIECE, "6, 7 (15 .. 13 3): words with bit 12 0, bytes, at s + n, n 10 .. 6 (4 * n for words); load with bit 11.");
        for (int n : new int[] {0, 1, 15, 16, 31}) {
            dueStored("STR, n " + n, ready(0x6008 | n << 6, BASE - 4 * n), STORED);
            dueLoaded("LDR, n " + n, ready(0x6808 | n << 6, BASE - 4 * n), 0, WORD);
            dueStored("STRB, n " + n, ready(0x7008 | n << 6, BASE - n), WORD & ~0xFF | 0xAA);
            dueLoaded("LDRB, n " + n, ready(0x7808 | n << 6, BASE - n), 0, WORD & 0xFF);
        }
        dueEachRegister("by a number", 0x6000, 0x6800, -1);
        for (int half : new int[] {0x6008, 0x6808, 0x7008, 0x7808}) {
            dueAbort("behind memory " + Integer.toHexString(half), ready(half, 0x40000));
            dueAbort("below 0 " + Integer.toHexString(half), ready(half, -1));
            Check.dueStep("the last byte " + Integer.toHexString(half), ready(half, 0x3FFFF));
        }
        // s + 4 * n goes round: LDR r0, [r1, #4] of -4
        TwoSetMachine x = ready(0x6848, -4);
        x.poke(0, 77);
        dueLoaded("-4 + 4", x, 0, 77);
        dueAbort("over the end", ready(0x6848, 0x3FFFC));
    }

    private static void halves() {
        Check.sentence(PIECE, "15 .. 12 8: halves at s + 2 * n.");
        for (int n : new int[] {0, 1, 15, 16, 31}) {
            dueStored("STRH, n " + n, ready(0x8008 | n << 6, BASE - 2 * n), WORD & ~0xFFFF | 0xBBAA);
            dueLoaded("LDRH, n " + n, ready(0x8808 | n << 6, BASE - 2 * n), 0, WORD & 0xFFFF);
            dueStored("STRH, higher half, n " + n, ready(0x8008 | n << 6, BASE + 2 - 2 * n), WORD & 0xFFFF | 0xBBAA0000);
            dueLoaded("LDRH, higher half, n " + n, ready(0x8808 | n << 6, BASE + 2 - 2 * n), 0, WORD >>> 16);
        }
        dueEachRegister("halves", 0x8000, 0x8800, -1);
        for (int half : new int[] {0x8008, 0x8808}) {
            dueAbort("behind memory", ready(half, 0x40000));
            dueAbort("below 0", ready(half, -2));
            Check.dueStep("the last half", ready(half, 0x3FFFE));
        }
    }

    private static void besideStackPointer() {
        Check.sentence(PIECE, "9: words b at SP + 4 * 7 .. 0.");
        for (int number : new int[] {0, 1, 0x7F, 0x80, 0xFF}) {
            for (int b = 0; b < 8; b++) {
                TwoSetMachine x = ready(0x9000 | b << 8 | number, 0);
                x.set(Check.SVC, b, STORED);
                x.set(Check.SVC, 13, BASE - 4 * number);
                dueStored("STR r" + b + ", [SP, " + number + "]", x, STORED);
                TwoSetMachine y = ready(0x9800 | b << 8 | number, 0);
                y.set(Check.SVC, 13, BASE - 4 * number);
                dueLoaded("LDR r" + b + ", [SP, " + number + "]", y, b, WORD);
            }
        }
        for (int half : new int[] {0x9000, 0x9800}) {
            TwoSetMachine x = ready(half, 0);
            x.set(Check.SVC, 13, 0x40000);
            dueAbort("behind memory", x);
            TwoSetMachine y = ready(half, 0);
            y.set(Check.SVC, 13, -4);
            dueAbort("below 0", y);
        }
    }

    private static void allAsWithArm() {
        Check.sentence(PIECE, "All as with ARM.");
        for (int k = 0; k < 4; k++) {
            int half = k < 2 ? WORD & 0xFFFF : WORD >>> 16;
            int halfStored = k < 2 ? WORD & ~0xFFFF | 0xBBAA : WORD & 0xFFFF | 0xBBAA0000;
            int byteStored = WORD & ~(0xFF << 8 * k) | 0xAA << 8 * k;
            int turned = Integer.rotateRight(WORD, 8 * k);
            dueLoaded("LDR at " + k, ready(0x6808, BASE + k), 0, turned);
            dueLoaded("LDR, by register, at " + k, ready(0x5888, BASE + k), 0, turned);
            dueLoaded("LDRH at " + k, ready(0x8808, BASE + k), 0, half);
            dueLoaded("LDRH, by register, at " + k, ready(0x5A88, BASE + k), 0, half);
            dueLoaded("LDSH at " + k, ready(0x5E88, BASE + k), 0, (short) half);
            dueLoaded("LDSB at " + k, ready(0x5688, BASE + k), 0, (byte) (WORD >>> 8 * k));
            dueLoaded("LDRB at " + k, ready(0x7808, BASE + k), 0, WORD >>> 8 * k & 0xFF);
            dueStored("STR at " + k, ready(0x6008, BASE + k), STORED);
            dueStored("STR, by register, at " + k, ready(0x5088, BASE + k), STORED);
            dueStored("STRH at " + k, ready(0x8008, BASE + k), halfStored);
            dueStored("STRH, by register, at " + k, ready(0x5288, BASE + k), halfStored);
            dueStored("STRB at " + k, ready(0x7008, BASE + k), byteStored);
            TwoSetMachine x = ready(0x9800, 0);
            x.set(Check.SVC, 13, BASE + k);
            dueLoaded("LDR beside SP at " + k, x, 0, turned);
            TwoSetMachine y = ready(0x9000, 0);
            y.set(Check.SVC, 13, BASE + k);
            dueStored("STR beside SP at " + k, y, STORED);
        }
        // What is loaded comes last: LDR r1, [r1]
        TwoSetMachine x = ready(0x6809, BASE);
        dueLoaded("LDR r1, [r1]", x, 1, WORD);
    }

    /** r0 .. r14 are 0x100 + i, but SP. */
    private static TwoSetMachine counted(int half, int sp) {
        TwoSetMachine x = Check.thumb(Check.SVC | Check.N, half);
        for (int i = 0; i < 15; i++) {
            x.set(Check.SVC, i, 0x100 + i);
        }
        x.set(Check.SVC, 13, sp);
        return x;
    }

    private static void push() {
        Check.sentence(STACK, "15 .. 9 0x5A: PUSH 7 .. 0 and (bit 8) LR;");
        for (int list : new int[] {0x001, 0x080, 0x0FF, 0x05A, 0x100, 0x101, 0x1FF}) {
            TwoSetMachine x = counted(0xB400 | list, BASE);
            Map<String, Integer> before = Check.state(x);
            Check.dueStep("PUSH", x);
            int address = BASE - 4 * Integer.bitCount(list);
            Check.due("SP behind PUSH " + list, x.get(Check.SVC, 13), address);
            for (int i = 0; i < 9; i++) {
                if ((list >> i & 1) != 0) {
                    Check.due("PUSH " + list + ": bit " + i, x.peek(address), i == 8 ? 0x10E : 0x100 + i);
                    address += 4;
                }
            }
            Check.due("nothing above", x.peek(BASE), 0);
            Check.dueStays("PUSH", x, before, "PC", Check.register(Check.SVC, 13));
        }
    }

    private static void pop() {
        Check.sentence(STACK, "0x5E: POP, and PC:");
        for (int list : new int[] {0x001, 0x080, 0x0FF, 0x05A, 0x100, 0x101, 0x1FF}) {
            TwoSetMachine x = counted(0xBC00 | list, BASE);
            for (int k = 0; k < 9; k++) {
                x.poke(BASE + 4 * k, 0x1001 + 16 * k);
            }
            Check.dueStep("POP", x);
            int k = 0;
            for (int i = 0; i < 8; i++) {
                boolean listed = (list >> i & 1) != 0;
                Check.due("POP " + list + ": r" + i, x.get(Check.SVC, i), listed ? 0x1001 + 16 * k : 0x100 + i);
                k += listed ? 1 : 0;
            }
            Check.due("POP " + list + ": PC", x.get(Check.SVC, 15), (list & 0x100) != 0 ? 0x1000 + 16 * k : 0x202);
            Check.due("POP " + list + ": LR stays", x.get(Check.SVC, 14), 0x10E);
            Check.due("POP " + list + ": SP", x.get(Check.SVC, 13), BASE + 4 * Integer.bitCount(list));
            Check.due("POP " + list + ": CPSR stays", x.count(7), Check.N | 0xF3);
        }
        // PC with T: its lowest bit is 0, and T stays, whatever was loaded.
        for (int low = 0; low < 4; low++) {
            TwoSetMachine x = counted(0xBD00, BASE);
            x.poke(BASE, 0x1000 | low);
            Check.dueStep("POP {PC}", x);
            Check.due("POP {PC} with " + low, x.get(Check.SVC, 15), 0x1000 | low & 2);
            Check.due("T stays", x.count(7), Check.N | 0xF3);
        }
    }

    private static void asMany() {
        Check.sentence(STACK, "as MANY with SP downwards (bit 24) and upwards, n written.");
        // Nothing in the list: nothing is done, with any SP.
        for (int half : new int[] {0xB400, 0xBC00}) {
            for (int sp : new int[] {BASE, -4, 0x40000}) {
                TwoSetMachine x = counted(half, sp);
                Map<String, Integer> before = Check.state(x);
                Check.dueStep("nothing", x);
                Check.dueStays("nothing", x, before, "PC");
            }
        }
        // From the end of memory, and to it.
        TwoSetMachine push = counted(0xB401, 0x40000);
        Check.dueStep("PUSH from the end", push);
        Check.due("the last word", push.peek(0x3FFFC), 0x100);
        TwoSetMachine pop = counted(0xBC01, 0x3FFFC);
        Check.dueStep("POP to the end", pop);
        Check.due("SP", pop.get(Check.SVC, 13), 0x40000);
        TwoSetMachine first = counted(0xB403, 8);
        Check.dueStep("PUSH to the beginning", first);
        Check.due("the first word", first.peek(0), 0x100);
        Check.due("SP", first.get(Check.SVC, 13), 0);
        dueAbort("PUSH below 0", counted(0xB403, 4));
        dueAbort("PUSH at 0", counted(0xB401, 0));
        dueAbort("POP over the end", counted(0xBD03, 0x3FFF8));
        dueAbort("POP behind the end", counted(0xBC01, 0x40000));
        // Words below are stored: PUSH {r0, r1, r2} with two words in memory.
        TwoSetMachine over = counted(0xB407, 0x40004);
        dueAbort("PUSH over the end", over);
        Check.due("r0 is stored", over.peek(0x3FFF8), 0x100);
        Check.due("r1 is stored", over.peek(0x3FFFC), 0x101);
        // Lowest bits as 0 in the address, not in SP.
        for (int k = 0; k < 4; k++) {
            TwoSetMachine x = counted(0xB401, BASE + k);
            Check.dueStep("PUSH", x);
            Check.due("stored with SP " + k, x.peek(BASE - 4), 0x100);
            Check.due("SP with " + k, x.get(Check.SVC, 13), BASE + k - 4);
        }
        // SP and LR of the mode: PUSH {LR} in IRQ.
        TwoSetMachine irq = Check.thumb(Check.IRQ, 0xB500);
        irq.set(Check.IRQ, 13, BASE);
        irq.set(Check.IRQ, 14, 77);
        Check.dueStep("PUSH {LR} in IRQ", irq);
        Check.due("LR of IRQ", irq.peek(BASE - 4), 77);
        Check.due("SP of IRQ", irq.get(Check.IRQ, 13), BASE - 4);
    }

    private static void storeAndLoadMany() {
        Check.sentence(MANY, "15 .. 12 12: STM, (bit 11) LDM upwards from b, written, of 7 .. 0.");
        for (int b = 0; b < 8; b++) {
            for (int list : new int[] {0x01, 0x80, 0x5A, 0xFF}) {
                TwoSetMachine x = counted(0xC000 | b << 8 | list, 0);
                TwoSetMachine y = counted(0xC800 | b << 8 | list, 0);
                x.set(Check.SVC, b, BASE);
                y.set(Check.SVC, b, BASE);
                for (int k = 0; k < 8; k++) {
                    y.poke(BASE + 4 * k, 0x700 + k);
                }
                Check.dueStep("STM", x);
                Check.dueStep("LDM", y);
                int k = 0;
                for (int i = 0; i < 8; i++) {
                    if ((list >> i & 1) != 0) {
                        Check.due("STM r" + b + ", " + list + ": r" + i, x.peek(BASE + 4 * k), i == b ? BASE : 0x100 + i);
                        Check.due("LDM r" + b + ", " + list + ": r" + i, y.get(Check.SVC, i), 0x700 + k);
                        k++;
                    } else if (i != b) {
                        Check.due("LDM r" + b + ", " + list + ": r" + i + " stays", y.get(Check.SVC, i), 0x100 + i);
                    }
                }
                Check.due("STM: b", x.get(Check.SVC, b), BASE + 4 * k);
                if ((list >> b & 1) == 0) {
                    Check.due("LDM: b", y.get(Check.SVC, b), BASE + 4 * k);
                }
                Check.due("STM: behind", x.peek(BASE + 4 * k), 0);
            }
        }
        for (int half : new int[] {0xC100, 0xC900}) {
            TwoSetMachine x = ready(half, -4);
            Map<String, Integer> before = Check.state(x);
            Check.dueStep("no register", x);
            Check.dueStays("no register", x, before, "PC");
            dueAbort("over the end", ready(half | 5, 0x3FFFC));
            dueAbort("below 0", ready(half | 5, -4));
        }
        TwoSetMachine x = ready(0xC105, 0x3FFFC);
        x.step(1);
        Check.due("the word below is stored", x.peek(0x3FFFC), STORED);
    }
}
