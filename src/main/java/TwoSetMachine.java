/** An ARM processor (ARMv4T) with both its sets of instructions, beside 256 KB of memory. */
public final class TwoSetMachine {
    /** Nothing there; inside, also: a step without a fault, a mode that is none. */
    public static final int NONE = -1;

    private static final int MOST_STEPS = 20000;
    private static final int IRQ_LINE = 0;
    private static final int FIQ_LINE = 1;
    private static final int STEPS_IN_ALL = 6;
    private static final int WHOLE_STATUS = 7;

    private static final int SP = 13;
    private static final int LR = 14;
    private static final int PC = 15;

    private final Memory memory;
    private final Registers registers;
    private final Processor processor;

    public TwoSetMachine() {
        memory = new Memory();
        registers = new Registers();
        processor = new Processor(memory, registers);
    }

    public int poke(int address, int word) throws IllegalArgumentException, IndexOutOfBoundsException {
        refuseAddress(address);
        int before = memory.word(address);
        memory.putWord(address, word);
        return before;
    }

    public int peek(int address) throws IllegalArgumentException, IndexOutOfBoundsException {
        refuseAddress(address);
        return memory.word(address);
    }

    public void set(int mode, int i, int v) throws IllegalArgumentException, IndexOutOfBoundsException {
        int bank = Registers.bankOf(mode);
        refuseRegister(bank, i);
        if (i == PC) {
            registers.jump(v);
        } else {
            registers.hold(bank, i, v);
        }
    }

    public int get(int mode, int i) throws IllegalArgumentException, IndexOutOfBoundsException {
        int bank = Registers.bankOf(mode);
        refuseRegister(bank, i);
        return registers.heldIn(bank, i);
    }

    public int status(int v) {
        int before = registers.cpsr();
        registers.changeCpsr(v);
        registers.jump(registers.next());
        return before;
    }

    public int saved(int mode, int v) throws IllegalArgumentException {
        int bank = Registers.bankOf(mode);
        if (bank == NONE || bank == Registers.USER_BANK) {
            throw new IllegalArgumentException("the mode has no SPSR");
        }
        int before = registers.spsr(bank);
        registers.changeSpsr(bank, v);
        return before;
    }

    public boolean line(int line, boolean on) throws IndexOutOfBoundsException {
        if (line != IRQ_LINE && line != FIQ_LINE) {
            throw new IndexOutOfBoundsException("there is no such line");
        }
        return line == FIQ_LINE ? processor.switchFiq(on) : processor.switchIrq(on);
    }

    public int step(int n) throws IllegalArgumentException {
        if (n < 1 || n > MOST_STEPS) {
            throw new IllegalArgumentException("not a number of steps");
        }
        int faults = 0;
        for (int k = 0; k < n; k++) {
            int fault = processor.advance();
            if (fault != NONE) {
                processor.take(fault);
                faults++;
            }
        }
        return faults;
    }

    public int count(int what) throws IndexOutOfBoundsException {
        if (what < 0 || what > WHOLE_STATUS) {
            throw new IndexOutOfBoundsException("nothing of that number is counted");
        }
        if (what == WHOLE_STATUS) {
            return registers.cpsr();
        }
        return what == STEPS_IN_ALL ? processor.steps() : processor.faultsOf(what);
    }

    private void refuseAddress(int address) throws IllegalArgumentException, IndexOutOfBoundsException {
        if ((address & 3) != 0) {
            throw new IllegalArgumentException("4 does not divide the address");
        }
        if (!memory.holds(address)) {
            throw new IndexOutOfBoundsException("there is no memory");
        }
    }

    private static void refuseRegister(int bank, int i) throws IllegalArgumentException, IndexOutOfBoundsException {
        if (bank == NONE) {
            throw new IllegalArgumentException("there is no such mode");
        }
        if (i < 0 || i > PC) {
            throw new IndexOutOfBoundsException("there is no such register");
        }
    }

    /** Bit fields of instructions, named once for both sets. */
    private static final class Bits {
        private Bits() {
        }

        static boolean on(int value, int bit) {
            return (value >>> bit & 1) != 0;
        }

        static int three(int value, int lowest) {
            return value >>> lowest & 7;
        }

        static int four(int value, int lowest) {
            return value >>> lowest & 15;
        }

        static int five(int value, int lowest) {
            return value >>> lowest & 31;
        }
    }

    /** The kinds of faults, and where each one leads. */
    private static final class Fault {
        static final int KINDS = 6;
        static final int UND = 0;
        static final int SWI = 1;
        static final int PABT = 2;
        static final int DABT = 3;
        static final int IRQ = 4;
        static final int FIQ = 5;

        private static final int[] MODES = {0x1B, 0x13, 0x17, 0x17, 0x12, 0x11};
        private static final int[] VECTORS = {0x04, 0x08, 0x0C, 0x10, 0x18, 0x1C};

        private Fault() {
        }

        static boolean isKind(int fault) {
            return fault >= 0 && fault < KINDS;
        }

        static int modeOf(int fault) {
            return isKind(fault) ? MODES[fault] : MODES[UND];
        }

        static int vectorOf(int fault) {
            return isKind(fault) ? VECTORS[fault] : VECTORS[UND];
        }
    }

    /** 256 KB, kept as words. Whoever reads or writes asks first whether the address is there. */
    private static final class Memory {
        static final int WORD = 0;
        static final int BYTE = 1;
        static final int HALF = 2;
        static final int SIGNED_BYTE = 3;
        static final int SIGNED_HALF = 4;

        private static final int BYTES = 0x40000;

        private final int[] words;

        Memory() {
            words = new int[BYTES / 4];
        }

        boolean holds(int address) {
            return address >= 0 && address < BYTES;
        }

        int word(int address) {
            return words[(address & BYTES - 1) >>> 2];
        }

        void putWord(int address, int value) {
            words[(address & BYTES - 1) >>> 2] = value;
        }

        int half(int address) {
            return word(address) >>> 8 * (address & 2) & 0xFFFF;
        }

        /** What a load of the kind finds; a word from an odd place is turned. */
        int load(int kind, int address) {
            int whole = word(address);
            int byteShift = 8 * (address & 3);
            int halfShift = 8 * (address & 2);
            switch (kind) {
                case BYTE:
                    return whole >>> byteShift & 0xFF;
                case SIGNED_BYTE:
                    return (byte) (whole >>> byteShift);
                case HALF:
                    return whole >>> halfShift & 0xFFFF;
                case SIGNED_HALF:
                    return (short) (whole >>> halfShift);
                default:
                    return Shifter.turnRight(whole, byteShift);
            }
        }

        /** Kinds with a sign are never stored: the sets of instructions have no such thing. */
        void store(int kind, int address, int value) {
            if (kind == WORD) {
                putWord(address, value);
                return;
            }
            int mask = kind == BYTE ? 0xFF : 0xFFFF;
            int shift = 8 * (kind == BYTE ? address & 3 : address & 2);
            putWord(address, word(address) & ~(mask << shift) | (value & mask) << shift);
        }
    }

    /** The registers of all modes, CPSR and the SPSRs. */
    private static final class Registers {
        static final int USER_BANK = 0;

        private static final int FIQ_BANK = 1;
        private static final int IRQ_BANK = 2;
        private static final int SVC_BANK = 3;
        private static final int ABT_BANK = 4;
        private static final int UND_BANK = 5;
        private static final int BANKS = 6;
        private static final int PLACES_IN_ALL = 31;

        private static final int USR_MODE = 0x10;
        private static final int MODE_BITS = 0x1F;
        private static final int FLAG_BITS = 0xF0000000;
        private static final int STATUS_BITS = 0xF00000FF;
        private static final int I_BIT = 0x80;
        private static final int F_BIT = 0x40;
        private static final int T_BIT = 0x20;
        private static final int FIRST_CPSR = 0xD3;

        /** Where the sixteen registers of each bank are held: most places serve several banks. */
        private static final int[] PLACES = {
            0, 1, 2, 3, 4, 5, 6, 7, 8, 9, 10, 11, 12, 13, 14, 15,
            0, 1, 2, 3, 4, 5, 6, 7, 16, 17, 18, 19, 20, 21, 22, 15,
            0, 1, 2, 3, 4, 5, 6, 7, 8, 9, 10, 11, 12, 23, 24, 15,
            0, 1, 2, 3, 4, 5, 6, 7, 8, 9, 10, 11, 12, 25, 26, 15,
            0, 1, 2, 3, 4, 5, 6, 7, 8, 9, 10, 11, 12, 27, 28, 15,
            0, 1, 2, 3, 4, 5, 6, 7, 8, 9, 10, 11, 12, 29, 30, 15,
        };

        private final int[] held;
        private final int[] spsrs;
        private int cpsr;
        private int bank;
        /** The address of the instruction that is being done. */
        private int here;

        Registers() {
            held = new int[PLACES_IN_ALL];
            spsrs = new int[BANKS];
            cpsr = FIRST_CPSR;
            bank = SVC_BANK;
            here = 0;
        }

        static int bankOf(int mode) {
            switch (mode) {
                case 0x10:
                case 0x1F:
                    return USER_BANK;
                case 0x11:
                    return FIQ_BANK;
                case 0x12:
                    return IRQ_BANK;
                case 0x13:
                    return SVC_BANK;
                case 0x17:
                    return ABT_BANK;
                case 0x1B:
                    return UND_BANK;
                default:
                    return NONE;
            }
        }

        int heldIn(int ofBank, int i) {
            return held[PLACES[16 * ofBank + i]];
        }

        /** For all but r15, whose lowest bits are not free. */
        void hold(int ofBank, int i, int v) {
            held[PLACES[16 * ofBank + i]] = v;
        }

        /** A register as an operand. */
        int read(int i) {
            if (i == PC) {
                return here + (thumb() ? 4 : 8);
            }
            return held[PLACES[16 * bank + i]];
        }

        /** A register that is stored, or is used beside a shift by a register: r15 has gone on. */
        int readLate(int i) {
            return readLateIn(bank, i);
        }

        int readLateIn(int ofBank, int i) {
            return i == PC ? here + 12 : held[PLACES[16 * ofBank + i]];
        }

        void write(int i, int v) {
            if (i == PC) {
                jump(v);
            } else {
                hold(bank, i, v);
            }
        }

        int bank() {
            return bank;
        }

        int next() {
            return held[PC];
        }

        void jump(int v) {
            held[PC] = v & (thumb() ? ~1 : ~3);
        }

        void jumpAndChangeSet(int v) {
            cpsr = cpsr & ~T_BIT | ((v & 1) != 0 ? T_BIT : 0);
            jump(v);
        }

        int here() {
            return here;
        }

        int behind() {
            return here + (thumb() ? 2 : 4);
        }

        void begin() {
            here = held[PC];
            held[PC] = behind();
        }

        int cpsr() {
            return cpsr;
        }

        void changeCpsr(int v) {
            int newBank = bankOf(v & MODE_BITS);
            if (newBank == NONE) {
                cpsr = v & STATUS_BITS & ~MODE_BITS | cpsr & MODE_BITS;
            } else {
                cpsr = v & STATUS_BITS;
                bank = newBank;
            }
        }

        /** As an instruction may do it: without T, and in USR the flags alone. */
        void mixIntoCpsr(int v, int mask) {
            boolean user = (cpsr & MODE_BITS) == USR_MODE;
            int allowed = mask & (user ? FLAG_BITS : STATUS_BITS & ~T_BIT);
            changeCpsr(cpsr & ~allowed | v & allowed);
        }

        int spsr(int ofBank) {
            return spsrs[ofBank];
        }

        void changeSpsr(int ofBank, int v) {
            spsrs[ofBank] = v & STATUS_BITS;
        }

        void mixIntoSpsr(int v, int mask) {
            if (bank != USER_BANK) {
                changeSpsr(bank, spsrs[bank] & ~mask | v & mask);
            }
        }

        /** USR and SYS have no SPSR: CPSR stands for it, and stays as it is when it is restored. */
        int spsrOrCpsr() {
            return bank == USER_BANK ? cpsr : spsrs[bank];
        }

        boolean thumb() {
            return (cpsr & T_BIT) != 0;
        }

        boolean irqAllowed() {
            return (cpsr & I_BIT) == 0;
        }

        boolean fiqAllowed() {
            return (cpsr & F_BIT) == 0;
        }

        int carry() {
            return cpsr >>> 29 & 1;
        }

        int overflow() {
            return cpsr >>> 28 & 1;
        }

        void changeFlags(int flags) {
            cpsr = flags & FLAG_BITS | cpsr & ~FLAG_BITS;
        }

        boolean fits(int condition) {
            boolean n = cpsr < 0;
            boolean z = Bits.on(cpsr, 30);
            boolean c = Bits.on(cpsr, 29);
            boolean v = Bits.on(cpsr, 28);
            boolean plain;
            switch (condition >>> 1) {
                case 0:
                    plain = z;
                    break;
                case 1:
                    plain = c;
                    break;
                case 2:
                    plain = n;
                    break;
                case 3:
                    plain = v;
                    break;
                case 4:
                    plain = c && !z;
                    break;
                case 5:
                    plain = n == v;
                    break;
                case 6:
                    plain = n == v && !z;
                    break;
                default:
                    plain = true;
                    break;
            }
            return plain != Bits.on(condition, 0);
        }

        void enter(int fault) {
            int before = cpsr;
            int link = linkOf(fault);
            int masked = fault == Fault.FIQ ? I_BIT | F_BIT : I_BIT;
            changeCpsr(before & ~T_BIT & ~MODE_BITS | masked | Fault.modeOf(fault));
            changeSpsr(bank, before);
            write(LR, link);
            jump(Fault.vectorOf(fault));
        }

        private int linkOf(int fault) {
            if (fault == Fault.UND || fault == Fault.SWI) {
                return behind();
            }
            return fault == Fault.DABT ? here + 8 : here + 4;
        }
    }

    /** A shift answers its value; its carry is kept until the next one. */
    private static final class Shifter {
        static final int LSL = 0;
        static final int LSR = 1;
        static final int ASR = 2;
        static final int ROR = 3;

        private int carry;

        Shifter() {
            carry = 0;
        }

        static int turnRight(int value, int n) {
            return value >>> (n & 31) | value << (-n & 31);
        }

        int carry() {
            return carry;
        }

        int shift(int kind, int value, int n, int carryBefore) {
            if (n == 0) {
                carry = carryBefore;
                return value;
            }
            if (kind == ROR) {
                int turned = turnRight(value, n);
                carry = turned >>> 31;
                return turned;
            }
            if (n < 32) {
                carry = (kind == LSL ? value >>> 32 - n : value >> n - 1) & 1;
                return kind == LSL ? value << n : kind == LSR ? value >>> n : value >> n;
            }
            if (kind == ASR) {
                carry = value >>> 31;
                return value >> 31;
            }
            int lastOut = kind == LSL ? value & 1 : value >>> 31;
            carry = n == 32 ? lastOut : 0;
            return 0;
        }

        /** By a number in the instruction, where 0 has meanings of its own. */
        int shiftByNumber(int kind, int value, int n, int carryBefore) {
            if (n != 0 || kind == LSL) {
                return shift(kind, value, n, carryBefore);
            }
            if (kind == ROR) {
                carry = value & 1;
                return value >>> 1 | carryBefore << 31;
            }
            return shift(kind, value, 32, carryBefore);
        }

        /** The number in bits 11 .. 0 of an ARM instruction. */
        int turnedNumber(int instruction, int carryBefore) {
            return shift(ROR, instruction & 0xFF, 2 * Bits.four(instruction, 8), carryBefore);
        }
    }

    /** The sixteen operations of DATA; the flags of the last one are kept until they are wanted. */
    private static final class Alu {
        static final int SUB = 2;
        static final int RSB = 3;
        static final int ADD = 4;
        static final int CMP = 10;
        static final int MOV = 13;

        private final Registers registers;
        private int flags;

        Alu(Registers registers) {
            this.registers = registers;
            flags = 0;
        }

        static boolean isTest(int operation) {
            return (operation & 12) == 8;
        }

        int flags() {
            return flags;
        }

        int compute(int operation, int n, int o, int shiftCarry) {
            switch (operation) {
                case 0:
                case 8:
                    return logic(n & o, shiftCarry);
                case 1:
                case 9:
                    return logic(n ^ o, shiftCarry);
                case SUB:
                case CMP:
                    return sum(n, ~o, 1);
                case RSB:
                    return sum(o, ~n, 1);
                case ADD:
                case 11:
                    return sum(n, o, 0);
                case 5:
                    return sum(n, o, registers.carry());
                case 6:
                    return sum(n, ~o, registers.carry());
                case 7:
                    return sum(o, ~n, registers.carry());
                case 12:
                    return logic(n | o, shiftCarry);
                case MOV:
                    return logic(o, shiftCarry);
                case 14:
                    return logic(n & ~o, shiftCarry);
                default:
                    return logic(~o, shiftCarry);
            }
        }

        /** Computes, sets the flags and writes the result, unless it is a test. */
        void apply(int operation, int d, int n, int o) {
            int result = compute(operation, n, o, registers.carry());
            registers.changeFlags(flags);
            if (!isTest(operation)) {
                registers.write(d, result);
            }
        }

        /** N and Z of 64 bits; what has 32 comes with its sign. */
        void flagsOfProduct(long product) {
            keep(product < 0, product == 0, registers.carry(), registers.overflow());
            registers.changeFlags(flags);
        }

        private int logic(int result, int carry) {
            keep(result < 0, result == 0, carry, registers.overflow());
            return result;
        }

        private int sum(int a, int b, int carryIn) {
            long whole = (a & 0xFFFFFFFFL) + (b & 0xFFFFFFFFL) + carryIn;
            int result = (int) whole;
            int overflow = ((a ^ result) & (b ^ result)) >>> 31;
            keep(result < 0, result == 0, (int) (whole >>> 32), overflow);
            return result;
        }

        private void keep(boolean n, boolean z, int c, int v) {
            flags = (n ? 1 << 31 : 0) | (z ? 1 << 30 : 0) | c << 29 | v << 28;
        }
    }

    /** Loads and stores, as both sets of instructions do them. */
    private static final class Transfers {
        private final Memory memory;
        private final Registers registers;

        Transfers(Memory memory, Registers registers) {
            this.memory = memory;
            this.registers = registers;
        }

        /** One register, with what TRANSFER and HALVES say of bits 24 .. 20. */
        int indexed(int instruction, int kind, int offset) {
            int n = Bits.four(instruction, 16);
            int base = registers.read(n);
            int moved = Bits.on(instruction, 23) ? base + offset : base - offset;
            boolean early = Bits.on(instruction, 24);
            int address = early ? moved : base;
            if (!memory.holds(address)) {
                return Fault.DABT;
            }
            int d = Bits.four(instruction, 12);
            boolean load = Bits.on(instruction, 20);
            int value = load ? memory.load(kind, address) : registers.readLate(d);
            if (n != PC && (!early || Bits.on(instruction, 21))) {
                registers.write(n, moved);
            }
            if (load) {
                registers.write(d, value);
            } else {
                memory.store(kind, address, value);
            }
            return NONE;
        }

        /** One register, and no other changed: all that THUMB has of these. */
        int plain(boolean load, int kind, int d, int address) {
            if (!memory.holds(address)) {
                return Fault.DABT;
            }
            if (load) {
                registers.write(d, memory.load(kind, address));
            } else {
                memory.store(kind, address, registers.read(d));
            }
            return NONE;
        }

        int swap(int kind, int n, int d, int m) {
            int address = registers.read(n);
            if (!memory.holds(address)) {
                return Fault.DABT;
            }
            int loaded = memory.load(kind, address);
            memory.store(kind, address, registers.read(m));
            registers.write(d, loaded);
            return NONE;
        }

        /** MANY, by the bits of its ARM instruction. */
        int many(int instruction) {
            int list = instruction & 0xFFFF;
            if (list == 0) {
                return NONE;
            }
            int base = registers.read(Bits.four(instruction, 16));
            int size = 4 * Integer.bitCount(list);
            boolean upwards = Bits.on(instruction, 23);
            int moved = upwards ? base + size : base - size;
            int lowest = upwards ? base : moved;
            // Of the four ways these two leave the place at the lower end free.
            if (upwards == Bits.on(instruction, 24)) {
                lowest += 4;
            }
            if (Bits.on(instruction, 20)) {
                return loadMany(instruction, lowest, moved, lowest + size - 4);
            }
            return storeMany(instruction, lowest, moved);
        }

        private int storeMany(int instruction, int lowest, int moved) {
            int bank = Bits.on(instruction, 22) ? Registers.USER_BANK : registers.bank();
            int address = lowest;
            for (int i = 0; i <= PC; i++) {
                if (Bits.on(instruction, i)) {
                    if (!memory.holds(address)) {
                        return Fault.DABT;
                    }
                    memory.putWord(address, registers.readLateIn(bank, i));
                    address += 4;
                }
            }
            int n = Bits.four(instruction, 16);
            if (n != PC && Bits.on(instruction, 21)) {
                registers.hold(registers.bank(), n, moved);
            }
            return NONE;
        }

        private int loadMany(int instruction, int lowest, int moved, int highest) {
            // So few words cannot leave memory and come back: both ends there means all there.
            if (!memory.holds(lowest) || !memory.holds(highest)) {
                return Fault.DABT;
            }
            int n = Bits.four(instruction, 16);
            if (n != PC && Bits.on(instruction, 21)) {
                registers.hold(registers.bank(), n, moved);
            }
            boolean marked = Bits.on(instruction, 22);
            boolean withPc = Bits.on(instruction, PC);
            int bank = marked && !withPc ? Registers.USER_BANK : registers.bank();
            int address = lowest;
            for (int i = 0; i < PC; i++) {
                if (Bits.on(instruction, i)) {
                    registers.hold(bank, i, memory.word(address));
                    address += 4;
                }
            }
            if (withPc) {
                if (marked) {
                    registers.changeCpsr(registers.spsrOrCpsr());
                }
                registers.jump(memory.word(address));
            }
            return NONE;
        }
    }

    /** The instructions of 32 bits. Each method does one kind and answers its fault, or NONE. */
    private static final class ArmSet {
        private final Registers registers;
        private final Shifter shifter;
        private final Alu alu;
        private final Transfers transfers;

        ArmSet(Registers registers, Shifter shifter, Alu alu, Transfers transfers) {
            this.registers = registers;
            this.shifter = shifter;
            this.alu = alu;
            this.transfers = transfers;
        }

        /** The order is the document's: the first kind that fits is meant. */
        int perform(int instruction) {
            int condition = instruction >>> 28;
            if (condition == 15) {
                return Fault.UND;
            }
            if (!registers.fits(condition)) {
                return NONE;
            }
            switch (Bits.three(instruction, 25)) {
                case 0:
                    if ((instruction & 0x0FFFFFF0) == 0x012FFF10) {
                        registers.jumpAndChangeSet(registers.read(Bits.four(instruction, 0)));
                        return NONE;
                    }
                    if ((instruction & 0x0F0000F0) == 0x00000090) {
                        return multiply(instruction);
                    }
                    if ((instruction & 0x0FB00FF0) == 0x01000090) {
                        return swap(instruction);
                    }
                    if ((instruction & 0x90) == 0x90 && (instruction & 0x60) != 0) {
                        return halves(instruction);
                    }
                    if ((instruction & 0x0FBF0FFF) == 0x010F0000) {
                        return readStatus(instruction);
                    }
                    if ((instruction & 0x0FB0FFF0) == 0x0120F000) {
                        return writeStatus(instruction, registers.read(Bits.four(instruction, 0)));
                    }
                    return data(instruction);
                case 1:
                    if ((instruction & 0x0FB0F000) == 0x0320F000) {
                        return writeStatus(instruction, shifter.turnedNumber(instruction, 0));
                    }
                    return data(instruction);
                case 2:
                case 3:
                    return transfer(instruction);
                case 4:
                    return transfers.many(instruction);
                case 5:
                    return branch(instruction);
                case 7:
                    return Bits.on(instruction, 24) ? Fault.SWI : Fault.UND;
                default:
                    return Fault.UND;
            }
        }

        private int multiply(int instruction) {
            int n = Bits.four(instruction, 16);
            int d = Bits.four(instruction, 12);
            int s = Bits.four(instruction, 8);
            int m = Bits.four(instruction, 0);
            if (n == PC || d == PC || s == PC || m == PC) {
                return Fault.UND;
            }
            boolean ofLong = Bits.on(instruction, 23);
            boolean signed = Bits.on(instruction, 22);
            if (ofLong ? d == n : signed) {
                return Fault.UND;
            }
            boolean adding = Bits.on(instruction, 21);
            long product;
            if (ofLong) {
                product = longProduct(registers.read(m), registers.read(s), signed);
                product += adding ? pair(registers.read(n), registers.read(d)) : 0;
                registers.write(d, (int) product);
                registers.write(n, (int) (product >>> 32));
            } else {
                int sum = registers.read(m) * registers.read(s) + (adding ? registers.read(d) : 0);
                registers.write(n, sum);
                product = sum;
            }
            if (Bits.on(instruction, 20)) {
                alu.flagsOfProduct(product);
            }
            return NONE;
        }

        private static long longProduct(int a, int b, boolean signed) {
            return signed ? (long) a * b : (a & 0xFFFFFFFFL) * (b & 0xFFFFFFFFL);
        }

        private static long pair(int high, int low) {
            return (long) high << 32 | low & 0xFFFFFFFFL;
        }

        private int swap(int instruction) {
            int n = Bits.four(instruction, 16);
            int d = Bits.four(instruction, 12);
            int m = Bits.four(instruction, 0);
            if (n == PC || d == PC || m == PC) {
                return Fault.UND;
            }
            return transfers.swap(Bits.on(instruction, 22) ? Memory.BYTE : Memory.WORD, n, d, m);
        }

        private int halves(int instruction) {
            int bits = instruction >>> 5 & 3;
            if (bits != 1 && !Bits.on(instruction, 20)) {
                return Fault.UND;
            }
            int kind = bits == 1 ? Memory.HALF : bits == 2 ? Memory.SIGNED_BYTE : Memory.SIGNED_HALF;
            int m = Bits.four(instruction, 0);
            int number = 16 * Bits.four(instruction, 8) + m;
            int offset = Bits.on(instruction, 22) ? number : registers.read(m);
            return transfers.indexed(instruction, kind, offset);
        }

        private int readStatus(int instruction) {
            int v = Bits.on(instruction, 22) ? registers.spsrOrCpsr() : registers.cpsr();
            registers.write(Bits.four(instruction, 12), v);
            return NONE;
        }

        private int writeStatus(int instruction, int v) {
            int mask = Bits.on(instruction, 19) ? 0xF0000000 : 0;
            if (Bits.on(instruction, 16)) {
                mask |= 0xFF;
            }
            if (Bits.on(instruction, 22)) {
                registers.mixIntoSpsr(v, mask);
            } else {
                registers.mixIntoCpsr(v, mask);
            }
            return NONE;
        }

        private int data(int instruction) {
            int operation = Bits.four(instruction, 21);
            boolean test = Alu.isTest(operation);
            boolean withFlags = Bits.on(instruction, 20);
            boolean byRegister = (instruction & 0x02000010) == 0x10;
            if (test && !withFlags || byRegister && Bits.on(instruction, 7)) {
                return Fault.UND;
            }
            int n = Bits.four(instruction, 16);
            int o;
            if (Bits.on(instruction, 25)) {
                o = shifter.turnedNumber(instruction, registers.carry());
            } else {
                o = byRegister ? shiftedByRegister(instruction) : shiftedByNumber(instruction);
            }
            int first = byRegister ? registers.readLate(n) : registers.read(n);
            int result = alu.compute(operation, first, o, shifter.carry());
            int d = Bits.four(instruction, 12);
            if (withFlags) {
                if (test || d != PC) {
                    registers.changeFlags(alu.flags());
                } else {
                    registers.changeCpsr(registers.spsrOrCpsr());
                }
            }
            if (!test) {
                registers.write(d, result);
            }
            return NONE;
        }

        private int shiftedByRegister(int instruction) {
            int value = registers.readLate(Bits.four(instruction, 0));
            int n = registers.readLate(Bits.four(instruction, 8)) & 0xFF;
            return shifter.shift(instruction >>> 5 & 3, value, n, registers.carry());
        }

        private int shiftedByNumber(int instruction) {
            int value = registers.read(Bits.four(instruction, 0));
            int n = Bits.five(instruction, 7);
            return shifter.shiftByNumber(instruction >>> 5 & 3, value, n, registers.carry());
        }

        private int transfer(int instruction) {
            boolean byRegister = Bits.on(instruction, 25);
            if (byRegister && Bits.on(instruction, 4)) {
                return Fault.UND;
            }
            int offset = byRegister ? shiftedByNumber(instruction) : instruction & 0xFFF;
            int kind = Bits.on(instruction, 22) ? Memory.BYTE : Memory.WORD;
            return transfers.indexed(instruction, kind, offset);
        }

        private int branch(int instruction) {
            if (Bits.on(instruction, 24)) {
                registers.write(LR, registers.behind());
            }
            registers.jump(registers.read(PC) + 4 * (instruction << 8 >> 8));
            return NONE;
        }
    }

    /** The instructions of 16 bits. Each method does one kind and answers its fault, or NONE. */
    private static final class ThumbSet {
        /** Bits of the ARM instructions of MANY that PUSH, POP, STM and LDM are. */
        private static final int PUSH_AS_ARM = 0x092D0000;
        private static final int POP_AS_ARM = 0x08BD0000;
        private static final int STM_AS_ARM = 0x08A00000;
        private static final int LDM_AS_ARM = 0x08B00000;

        /** STR STRH STRB LDSB LDR LDRH LDRB LDSH, as the kinds of Memory. */
        private static final int[] KINDS_BY_REGISTER = {0, 2, 1, 3, 0, 2, 1, 4};

        private final Registers registers;
        private final Shifter shifter;
        private final Alu alu;
        private final Transfers transfers;

        ThumbSet(Registers registers, Shifter shifter, Alu alu, Transfers transfers) {
            this.registers = registers;
            this.shifter = shifter;
            this.alu = alu;
            this.transfers = transfers;
        }

        int perform(int instruction) {
            switch (instruction >>> 12) {
                case 0:
                case 1:
                    return Bits.four(instruction, 11) == 3 ? addOrSubtract(instruction) : shiftByNumber(instruction);
                case 2:
                case 3:
                    return withNumber(instruction);
                case 4:
                    if (Bits.on(instruction, 11)) {
                        return loadBesidePc(instruction);
                    }
                    return Bits.on(instruction, 10) ? ofAllRegisters(instruction) : ofTwoRegisters(instruction);
                case 5:
                    return byRegisterOffset(instruction);
                case 6:
                case 7:
                case 8:
                    return byNumberOffset(instruction);
                case 9:
                    return besideSp(instruction);
                case 10:
                    return addressOf(instruction);
                case 11:
                    return stack(instruction);
                case 12:
                    return many(instruction);
                case 13:
                    return branchByCondition(instruction);
                default:
                    return branch(instruction);
            }
        }

        private int shiftByNumber(int instruction) {
            int value = registers.read(Bits.three(instruction, 3));
            int n = Bits.five(instruction, 6);
            int shifted = shifter.shiftByNumber(instruction >>> 11 & 3, value, n, registers.carry());
            return keepShifted(Bits.three(instruction, 0), shifted);
        }

        private int keepShifted(int d, int shifted) {
            alu.compute(Alu.MOV, 0, shifted, shifter.carry());
            registers.changeFlags(alu.flags());
            registers.write(d, shifted);
            return NONE;
        }

        private int addOrSubtract(int instruction) {
            int bits = Bits.three(instruction, 6);
            int o = Bits.on(instruction, 10) ? bits : registers.read(bits);
            int operation = Bits.on(instruction, 9) ? Alu.SUB : Alu.ADD;
            alu.apply(operation, Bits.three(instruction, 0), registers.read(Bits.three(instruction, 3)), o);
            return NONE;
        }

        private int withNumber(int instruction) {
            int b = Bits.three(instruction, 8);
            int bits = instruction >>> 11 & 3;
            int upper = bits == 2 ? Alu.ADD : Alu.SUB;
            int lower = bits == 0 ? Alu.MOV : Alu.CMP;
            alu.apply(bits >= 2 ? upper : lower, b, registers.read(b), instruction & 0xFF);
            return NONE;
        }

        private int ofTwoRegisters(int instruction) {
            int d = Bits.three(instruction, 0);
            int operation = Bits.four(instruction, 6);
            int first = registers.read(d);
            int second = registers.read(Bits.three(instruction, 3));
            switch (operation) {
                case 2:
                case 3:
                case 4:
                    return keepShifted(d, shifter.shift(operation - 2, first, second & 0xFF, registers.carry()));
                case 7:
                    return keepShifted(d, shifter.shift(Shifter.ROR, first, second & 0xFF, registers.carry()));
                case 9:
                    alu.apply(Alu.RSB, d, second, 0);
                    return NONE;
                case 13:
                    registers.write(d, first * second);
                    alu.flagsOfProduct(first * second);
                    return NONE;
                default:
                    // All others have the numbers of DATA.
                    alu.apply(operation, d, first, second);
                    return NONE;
            }
        }

        private int ofAllRegisters(int instruction) {
            int d = Bits.three(instruction, 0) | instruction >>> 4 & 8;
            int second = registers.read(Bits.four(instruction, 3));
            switch (instruction >>> 8 & 3) {
                case 0:
                    registers.write(d, registers.read(d) + second);
                    return NONE;
                case 1:
                    alu.apply(Alu.CMP, d, registers.read(d), second);
                    return NONE;
                case 2:
                    registers.write(d, second);
                    return NONE;
                default:
                    if (Bits.on(instruction, 7)) {
                        return Fault.UND;
                    }
                    registers.jumpAndChangeSet(second);
                    return NONE;
            }
        }

        private int wordOfPc() {
            return registers.read(PC) & ~3;
        }

        private int loadBesidePc(int instruction) {
            int address = wordOfPc() + 4 * (instruction & 0xFF);
            return transfers.plain(true, Memory.WORD, Bits.three(instruction, 8), address);
        }

        private int byRegisterOffset(int instruction) {
            int bits = Bits.three(instruction, 9);
            int address = registers.read(Bits.three(instruction, 3)) + registers.read(Bits.three(instruction, 6));
            return transfers.plain(bits >= 3, KINDS_BY_REGISTER[bits], Bits.three(instruction, 0), address);
        }

        private int byNumberOffset(int instruction) {
            int base = registers.read(Bits.three(instruction, 3));
            int number = Bits.five(instruction, 6);
            int d = Bits.three(instruction, 0);
            boolean load = Bits.on(instruction, 11);
            switch (instruction >>> 12) {
                case 6:
                    return transfers.plain(load, Memory.WORD, d, base + 4 * number);
                case 7:
                    return transfers.plain(load, Memory.BYTE, d, base + number);
                default:
                    return transfers.plain(load, Memory.HALF, d, base + 2 * number);
            }
        }

        private int besideSp(int instruction) {
            int address = registers.read(SP) + 4 * (instruction & 0xFF);
            return transfers.plain(Bits.on(instruction, 11), Memory.WORD, Bits.three(instruction, 8), address);
        }

        private int addressOf(int instruction) {
            int base = Bits.on(instruction, 11) ? registers.read(SP) : wordOfPc();
            registers.write(Bits.three(instruction, 8), base + 4 * (instruction & 0xFF));
            return NONE;
        }

        private int stack(int instruction) {
            if (instruction >>> 8 == 0xB0) {
                int distance = 4 * (instruction & 0x7F);
                registers.write(SP, registers.read(SP) + (Bits.on(instruction, 7) ? -distance : distance));
                return NONE;
            }
            int low = instruction & 0xFF;
            boolean further = Bits.on(instruction, 8);
            switch (instruction >>> 9) {
                case 0x5A:
                    return transfers.many(PUSH_AS_ARM | low | (further ? 1 << LR : 0));
                case 0x5E:
                    return transfers.many(POP_AS_ARM | low | (further ? 1 << PC : 0));
                default:
                    return Fault.UND;
            }
        }

        private int many(int instruction) {
            int kind = Bits.on(instruction, 11) ? LDM_AS_ARM : STM_AS_ARM;
            return transfers.many(kind | Bits.three(instruction, 8) << 16 | instruction & 0xFF);
        }

        private int branchByCondition(int instruction) {
            int condition = Bits.four(instruction, 8);
            if (condition == 14) {
                return Fault.UND;
            }
            if (condition == 15) {
                return Fault.SWI;
            }
            if (registers.fits(condition)) {
                registers.jump(registers.read(PC) + 2 * (byte) instruction);
            }
            return NONE;
        }

        private int branch(int instruction) {
            int distance = instruction & 0x7FF;
            int signed = instruction << 21 >> 21;
            switch (instruction >>> 11) {
                case 0x1C:
                    registers.jump(registers.read(PC) + 2 * signed);
                    return NONE;
                case 0x1E:
                    registers.write(LR, registers.read(PC) + 4096 * signed);
                    return NONE;
                case 0x1F:
                    registers.jump(registers.read(LR) + 2 * distance);
                    registers.write(LR, registers.behind() | 1);
                    return NONE;
                default:
                    return Fault.UND;
            }
        }
    }

    /** What takes steps: the two lines, the two sets of instructions and the counts. */
    private static final class Processor {
        private final Memory memory;
        private final Registers registers;
        private final ArmSet arm;
        private final ThumbSet thumb;
        private final int[] faults;
        private int steps;
        private boolean irqOn;
        private boolean fiqOn;

        Processor(Memory memory, Registers registers) {
            this.memory = memory;
            this.registers = registers;
            Shifter shifter = new Shifter();
            Alu alu = new Alu(registers);
            Transfers transfers = new Transfers(memory, registers);
            arm = new ArmSet(registers, shifter, alu, transfers);
            thumb = new ThumbSet(registers, shifter, alu, transfers);
            faults = new int[Fault.KINDS];
            steps = 0;
            irqOn = false;
            fiqOn = false;
        }

        boolean switchIrq(boolean on) {
            boolean before = irqOn;
            irqOn = on;
            return before;
        }

        boolean switchFiq(boolean on) {
            boolean before = fiqOn;
            fiqOn = on;
            return before;
        }

        int steps() {
            return steps;
        }

        int faultsOf(int kind) {
            return Fault.isKind(kind) ? faults[kind] : 0;
        }

        /** One step but for its fault, which it answers, or NONE. */
        int advance() {
            steps++;
            registers.begin();
            if (fiqOn && registers.fiqAllowed()) {
                return Fault.FIQ;
            }
            if (irqOn && registers.irqAllowed()) {
                return Fault.IRQ;
            }
            int address = registers.here();
            if (!memory.holds(address)) {
                return Fault.PABT;
            }
            if (registers.thumb()) {
                return thumb.perform(memory.half(address));
            }
            return arm.perform(memory.word(address));
        }

        void take(int fault) {
            if (Fault.isKind(fault)) {
                faults[fault]++;
                registers.enter(fault);
            }
        }
    }
}
