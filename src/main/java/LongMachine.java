/**
 * A machine with 64-bit registers, translation by tables of three levels and
 * entries into the kernel. What it promises is told in the document, whose
 * words (step, entry, place, descriptor, fault) are the names used here.
 */
public final class LongMachine {
    private static final int KERNEL = 0;
    private static final int USER = 1;

    private static final int EXECUTE = -1;
    private static final int READ = 0;
    private static final int WRITE = 1;

    private static final int HALTED_BY_CALL = 1;
    private static final int HALTED_BY_ENTRY = 2;
    private static final int HALTED_BY_RETURN = 3;

    private static final int ON_INTERRUPT = 0;
    private static final int ON_TRAP = 1;
    private static final int ON_FAULT = 2;
    private static final int ON_REFUSAL = 3;
    private static final int ON_MISALIGNED = 4;
    private static final int ON_CALL = 5;

    private static final int NOT_FOR_USER = 3;
    private static final int UNKNOWN = 4;

    private static final int GLOBAL_POINTER = 29;
    private static final int STACK = 30;
    private static final int ZERO = 31;

    private static final int MEMORY_BYTES = 4096;
    private static final int FRAME_WORDS = 6;
    private static final int FRAME_BYTES = 48;
    private static final int MOST_STEPS = 31;

    private final Memory memory = new Memory();
    private final long[] registers = new long[32];
    private final long[] vectors = new long[6];
    private final long[] frame = new long[FRAME_WORDS];
    private final Interrupts interrupts = new Interrupts();
    private final Operation operation = new Operation();
    private final Crossing asked = new Crossing();
    private long pc;
    private long ksp;
    private long usp;
    private long kgp;
    private long value;
    private int mode = KERNEL;
    private int level = 7;
    private int halted;
    private int entries;
    private boolean locked;

    public LongMachine() {
    }

    public boolean set(int address, long v) {
        if (!isWordAddress(address)) {
            return false;
        }
        memory.words[address >> 3] = v;
        return true;
    }

    public boolean put(int r, long v) {
        if (r < 0 || r > 33) {
            return false;
        }
        if (r == 32) {
            pc = v & ~3L;
        } else if (r == 33) {
            ksp = v;
        } else {
            write(r, v);
        }
        return true;
    }

    public boolean interrupt(int level, int number) {
        if (level < 1 || level > 7 || number < 0 || number > 255) {
            return false;
        }
        return interrupts.add(level, number);
    }

    public int run(int n) {
        if (n < 1 || n > MOST_STEPS) {
            return 0;
        }
        int done = 0;
        while (done < n && halted == 0) {
            step();
            done++;
        }
        return done;
    }

    public long register(int r) {
        if (r >= 0 && r < 32) {
            return registers[r];
        }
        if (r >= 40 && r <= 45) {
            return vectors[r - 40];
        }
        switch (r) {
            case 32: return pc;
            case 33: return ksp;
            case 34: return usp;
            case 35: return kgp;
            case 36: return value;
            case 37: return memory.table;
            case 38: return memory.space;
            default: return -1;
        }
    }

    public long word(int address) {
        return isWordAddress(address) ? memory.words[address >> 3] : -1;
    }

    public int state(int what) {
        switch (what) {
            case 0: return status();
            case 1: return locked ? 1 : 0;
            case 2: return halted;
            case 3: return memory.count;
            case 4: return interrupts.count;
            case 5: return entries;
            default: return -1;
        }
    }

    private static boolean isWordAddress(int address) {
        return address >= 0 && address < MEMORY_BYTES && (address & 7) == 0;
    }

    private int status() {
        return 8 * mode + level;
    }

    private void write(int r, long v) {
        if (r != ZERO) {
            registers[r & 31] = v;
        }
    }

    // An instruction only asks to cross into the kernel or out of it: that is
    // done at the end of its step.
    private void step() {
        asked.clear();
        int taken = interrupts.takeAbove(level);
        int place = taken >= 0 ? -1 : memory.place(pc, EXECUTE, mode);
        if (taken >= 0) {
            asked.enter(ON_INTERRUPT, taken & 255, 0, 0, pc);
        } else if (place < 0) {
            asked.enter(ON_FAULT, pc, Memory.faultOf(place), EXECUTE, pc);
        } else {
            pc += 4;
            execute((int) memory.load(place, false));
        }
        if (asked.vector >= 0) {
            enter();
        } else if (asked.vector == Crossing.BACK) {
            comeBack();
        }
        if (taken >= 0 && halted == 0) {
            level = taken >> 8;
        }
    }

    private void execute(int code) {
        int op = code >>> 26;
        int a = code >>> 21 & 31;
        long base = registers[code >>> 16 & 31];
        long d = (short) code;
        switch (op) {
            case 0x00: call(code & 255); break;
            case 0x08: write(a, base + d); break;
            case 0x09: write(a, base + 65536 * d); break;
            case 0x0B: case 0x0F:
                reach(op, a, base + d & ~7L);
                break;
            case 0x10: case 0x11: case 0x12: case 0x13:
                operate(code);
                break;
            case 0x18: break;
            case 0x1A:
                write(a, pc);
                pc = base & ~3L;
                break;
            case 0x28: case 0x29: case 0x2A: case 0x2B:
            case 0x2C: case 0x2D: case 0x2E: case 0x2F:
                reach(op, a, base + d);
                break;
            case 0x30: case 0x34:
                write(a, pc);
                branch(code);
                break;
            case 0x38: case 0x39: case 0x3A: case 0x3B:
            case 0x3C: case 0x3D: case 0x3E: case 0x3F:
                if (isTaken(op, registers[a])) {
                    branch(code);
                }
                break;
            default: refuse(UNKNOWN); break;
        }
    }

    private void refuse(int why) {
        asked.enter(ON_REFUSAL, why, 0, 0, pc - 4);
    }

    private void branch(int code) {
        long e = code << 11 >> 11;
        pc += 4 * e;
    }

    private static boolean isTaken(int op, long x) {
        switch (op) {
            case 0x38: return (x & 1) == 0;
            case 0x39: return x == 0;
            case 0x3A: return x < 0;
            case 0x3B: return x <= 0;
            case 0x3C: return (x & 1) != 0;
            case 0x3D: return x != 0;
            case 0x3E: return x >= 0;
            case 0x3F: return x > 0;
            default: return false;
        }
    }

    private void operate(int code) {
        long x = registers[code >>> 21 & 31];
        long y = (code >>> 12 & 1) == 1 ? code >>> 13 & 255 : registers[code >>> 16 & 31];
        operation.compute(code >>> 26, code >>> 5 & 127, x, y);
        if (!operation.known) {
            refuse(UNKNOWN);
            return;
        }
        if (operation.given) {
            write(code & 31, operation.result);
        }
        if (operation.trap) {
            asked.enter(ON_TRAP, 0, 0, 0, pc);
        }
    }

    // Loads and stores; v has lost its lower three bits where they do not count.
    private void reach(int op, int a, long v) {
        boolean whole = (op & 1) == 1;
        boolean conditional = op == 0x2E || op == 0x2F;
        if ((v & (whole ? 7 : 3)) != 0) {
            asked.enter(ON_MISALIGNED, v, op, a, pc - 4);
            return;
        }
        if (conditional && !locked) {
            write(a, 0);
            return;
        }
        int access = op == 0x0F || op >= 0x2C ? WRITE : READ;
        int place = memory.place(v, access, mode);
        if (place < 0) {
            asked.enter(ON_FAULT, v, Memory.faultOf(place), access, pc - 4);
        } else if (access == READ) {
            write(a, memory.load(place, whole));
            locked = locked || op == 0x2A || op == 0x2B;
        } else {
            memory.store(place, whole, registers[a]);
            if (conditional) {
                write(a, 1);
                locked = false;
            }
        }
    }

    private void enter() {
        fillFrame();
        if (mode == USER) {
            usp = registers[STACK];
            registers[STACK] = ksp;
        }
        mode = KERNEL;
        if (!moveFrame(registers[STACK] - FRAME_BYTES, WRITE)) {
            halted = HALTED_BY_ENTRY;
            return;
        }
        registers[STACK] -= FRAME_BYTES;
        registers[16] = asked.a;
        registers[17] = asked.b;
        registers[18] = asked.c;
        registers[GLOBAL_POINTER] = kgp;
        locked = false;
        pc = vectors[asked.vector];
        entries++;
    }

    private void fillFrame() {
        frame[0] = status();
        frame[1] = asked.pc;
        frame[2] = registers[GLOBAL_POINTER];
        frame[3] = registers[16];
        frame[4] = registers[17];
        frame[5] = registers[18];
    }

    // Word by word: what was stored before a fault stays.
    private boolean moveFrame(long base, int access) {
        if ((base & 7) != 0) {
            return false;
        }
        for (int i = 0; i < FRAME_WORDS; i++) {
            int place = memory.place(base + 8 * i, access, mode);
            if (place < 0) {
                return false;
            }
            if (access == WRITE) {
                memory.store(place, true, frame[i]);
            } else {
                frame[i] = memory.load(place, true);
            }
        }
        return true;
    }

    private void comeBack() {
        if (!moveFrame(registers[STACK], READ)) {
            halted = HALTED_BY_RETURN;
            return;
        }
        level = (int) frame[0] & 7;
        mode = (int) frame[0] >> 3 & 1;
        pc = frame[1] & ~3L;
        registers[GLOBAL_POINTER] = frame[2];
        registers[16] = frame[3];
        registers[17] = frame[4];
        registers[18] = frame[5];
        registers[STACK] += FRAME_BYTES;
        if (mode == USER) {
            ksp = registers[STACK];
            registers[STACK] = usp;
        }
        locked = false;
    }

    private void call(int number) {
        switch (number) {
            case 0x80: asked.enter(ON_REFUSAL, 0, 0, 0, pc); break;
            case 0x81: asked.enter(ON_REFUSAL, 1, 0, 0, pc); break;
            case 0xAA: asked.enter(ON_REFUSAL, 2, 0, 0, pc); break;
            case 0x83: asked.enter(ON_CALL, registers[16], registers[17], registers[18], pc); break;
            case 0x86: break;
            case 0x00: case 0x3F:
            case 0x30: case 0x31: case 0x32: case 0x33: case 0x34:
            case 0x35: case 0x36: case 0x37: case 0x38: case 0x3A:
                if (mode == USER) {
                    refuse(NOT_FOR_USER);
                } else {
                    kernelCall(number);
                }
                break;
            default: refuse(UNKNOWN); break;
        }
    }

    private void kernelCall(int number) {
        long r16 = registers[16];
        switch (number) {
            case 0x00: halted = HALTED_BY_CALL; break;
            case 0x30: changeSpace(); break;
            case 0x31: value = r16; break;
            case 0x32: registers[0] = value; break;
            case 0x33: memory.emptyBuffer(); break;
            case 0x34: changeVector(); break;
            case 0x35:
                registers[0] = level;
                level = (int) r16 & 7;
                break;
            case 0x36: registers[0] = status(); break;
            case 0x37: kgp = r16; break;
            case 0x38: usp = r16; break;
            case 0x3A: registers[0] = usp; break;
            case 0x3F: asked.comeBack(); break;
            default: break;
        }
    }

    private void changeSpace() {
        registers[0] = 256 * memory.space + memory.table;
        memory.table = (int) registers[16] & 4064;
        memory.space = (int) registers[17] & 255;
    }

    private void changeVector() {
        int k = (int) registers[17] & 7;
        if (k < vectors.length) {
            vectors[k] = registers[16] & ~3L;
        }
    }

    /** What a step asks for: an entry by its vector, a return, or neither. */
    private static final class Crossing {
        static final int BACK = -1;
        private static final int NEITHER = -2;

        int vector;
        long a;
        long b;
        long c;
        long pc;

        void clear() {
            vector = NEITHER;
        }

        void comeBack() {
            vector = BACK;
        }

        void enter(int vector, long a, long b, long c, long pc) {
            this.vector = vector;
            this.a = a;
            this.b = b;
            this.c = c;
            this.pc = pc;
        }
    }

    /** The pending interrupts in the order in which they were told. */
    private static final class Interrupts {
        private static final int MOST = 4;

        private final int[] levels = new int[MOST];
        private final int[] numbers = new int[MOST];
        int count;

        boolean add(int level, int number) {
            if (count >= MOST) {
                return false;
            }
            levels[count] = level;
            numbers[count] = number;
            count++;
            return true;
        }

        // Answers 256 * level + number of the one that goes out, or -1.
        int takeAbove(int level) {
            int best = -1;
            int highest = level;
            for (int i = 0; i < count; i++) {
                if (levels[i] > highest) {
                    best = i;
                    highest = levels[i];
                }
            }
            if (best < 0) {
                return -1;
            }
            int taken = 256 * highest + numbers[best];
            remove(best);
            return taken;
        }

        private void remove(int at) {
            count--;
            for (int i = at; i < count; i++) {
                levels[i] = levels[i + 1];
                numbers[i] = numbers[i + 1];
            }
        }
    }

    /** The memory, and the tables, the space and the buffer that find places in it. */
    private static final class Memory {
        private static final int BUFFER_SIZE = 4;
        private static final int MAPPED_END = 16384;
        private static final int DIRECT_START = 32768;
        private static final int VALID = 1;
        // Lets everybody in but is not valid: what looks at it finds fault 0.
        private static final long UNREACHED = 0xF0;

        // Nothing that is reached goes across a border of 8 bytes.
        final long[] words = new long[MEMORY_BYTES / 8];
        private final int[] pages = new int[BUFFER_SIZE];
        private final int[] spaces = new int[BUFFER_SIZE];
        private final long[] descriptors = new long[BUFFER_SIZE];
        private int oldest;
        int count;
        int table;
        int space;

        long load(int place, boolean whole) {
            long found = words[place >> 3];
            return whole ? found : (int) (found >>> 8 * (place & 4));
        }

        void store(int place, boolean whole, long v) {
            int shift = 8 * (place & 4);
            long mask = whole ? -1L : 0xFFFFFFFFL << shift;
            long moved = whole ? v : v << shift;
            words[place >> 3] = words[place >> 3] & ~mask | moved & mask;
        }

        void emptyBuffer() {
            count = 0;
            oldest = 0;
        }

        // A fault is told as a place below 0, which no memory has.
        private static int faulted(int fault) {
            return -1 - fault;
        }

        static int faultOf(int place) {
            return -1 - place;
        }

        int place(long v, int access, int mode) {
            if (v < 0 || v >= MAPPED_END) {
                return directPlace(v, mode);
            }
            int page = (int) v >> 8;
            int slot = find(page);
            long descriptor = slot >= 0 ? descriptors[slot] : walk(page);
            int fault = faultIn(descriptor, access, mode);
            return fault >= 0 ? faulted(fault) : 256 * numberOf(descriptor) + ((int) v & 255);
        }

        private static int directPlace(long v, int mode) {
            boolean isThere = v >= DIRECT_START && v < DIRECT_START + MEMORY_BYTES;
            return isThere && mode == KERNEL ? (int) v - DIRECT_START : faulted(1);
        }

        private int find(int page) {
            for (int i = 0; i < count; i++) {
                if (pages[i] == page && spaces[i] == space) {
                    return i;
                }
            }
            return -1;
        }

        private long walk(int page) {
            long first = words[(table >> 3) + (page >> 4 & 3)];
            if ((first & VALID) == 0) {
                return UNREACHED;
            }
            long second = words[32 * numberOf(first) + (page >> 2 & 3)];
            if ((second & VALID) == 0) {
                return UNREACHED;
            }
            long third = words[32 * numberOf(second) + (page & 3)];
            if ((third & VALID) != 0) {
                keep(page, third);
            }
            return third;
        }

        private void keep(int page, long descriptor) {
            int slot = count;
            if (count < BUFFER_SIZE) {
                count++;
            } else {
                slot = oldest;
                oldest = (oldest + 1) % BUFFER_SIZE;
            }
            pages[slot] = page;
            spaces[slot] = space;
            descriptors[slot] = descriptor;
        }

        private static int numberOf(long descriptor) {
            return (int) (descriptor >>> 32) & 15;
        }

        // Answers the fault, or -1.
        private static int faultIn(long descriptor, int access, int mode) {
            int bits = (int) descriptor;
            int allowed = (access == WRITE ? 6 : 4) + mode;
            if ((bits >> allowed & 1) == 0) {
                return 1;
            }
            if ((bits & VALID) == 0) {
                return 0;
            }
            switch (access) {
                case READ: return (bits & 2) != 0 ? 3 : -1;
                case WRITE: return (bits & 4) != 0 ? 4 : -1;
                default: return (bits & 8) != 0 ? 2 : -1;
            }
        }
    }

    /** What the OPs 10h to 13h compute, and whether there is a result or a trap. */
    private static final class Operation {
        private static final long SIGN = 1L << 63;

        long result;
        boolean known;
        boolean given;
        boolean trap;

        void compute(int op, int f, long x, long y) {
            known = true;
            given = true;
            trap = false;
            switch (op) {
                case 0x10: result = add(f, x, y); break;
                case 0x11: result = combine(f, x, y); break;
                case 0x12: result = shift(f, x, y); break;
                case 0x13: result = multiply(f, x, y); break;
                default: known = false; break;
            }
        }

        private static long sx(long v) {
            return (int) v;
        }

        private long trapIf(boolean isWrong, long v) {
            trap = isWrong;
            return v;
        }

        private static long truth(boolean holds) {
            return holds ? 1 : 0;
        }

        private static boolean isBelow(long x, long y) {
            return (x ^ SIGN) < (y ^ SIGN);
        }

        private long add(int f, long x, long y) {
            switch (f) {
                case 0x00: return sx(x + y);
                case 0x02: return sx(4 * x + y);
                case 0x12: return sx(8 * x + y);
                case 0x09: return sx(x - y);
                case 0x0B: return sx(4 * x - y);
                case 0x20: return x + y;
                case 0x22: return 4 * x + y;
                case 0x32: return 8 * x + y;
                case 0x29: return x - y;
                case 0x2B: return 4 * x - y;
                case 0x40: return trapIf(sx(x + y) != sx(x) + sx(y), sx(x + y));
                case 0x49: return trapIf(sx(x - y) != sx(x) - sx(y), sx(x - y));
                case 0x60: return trapIf(((x ^ x + y) & (y ^ x + y)) < 0, x + y);
                case 0x69: return trapIf(((x ^ y) & (x ^ x - y)) < 0, x - y);
                case 0x2D: return truth(x == y);
                case 0x4D: return truth(x < y);
                case 0x6D: return truth(x <= y);
                case 0x1D: return truth(isBelow(x, y));
                case 0x3D: return truth(!isBelow(y, x));
                case 0x0F: return bytesNotLess(x, y);
                default:
                    known = false;
                    return 0;
            }
        }

        private static long bytesNotLess(long x, long y) {
            long found = 0;
            for (int i = 0; i < 8; i++) {
                if ((x >>> 8 * i & 255) >= (y >>> 8 * i & 255)) {
                    found |= 1L << i;
                }
            }
            return found;
        }

        private long combine(int f, long x, long y) {
            switch (f) {
                case 0x00: return x & y;
                case 0x08: return x & ~y;
                case 0x20: return x | y;
                case 0x28: return x | ~y;
                case 0x40: return x ^ y;
                case 0x48: return x ^ ~y;
                case 0x14: return onlyIf((x & 1) != 0, y);
                case 0x16: return onlyIf((x & 1) == 0, y);
                case 0x24: return onlyIf(x == 0, y);
                case 0x26: return onlyIf(x != 0, y);
                case 0x44: return onlyIf(x < 0, y);
                case 0x46: return onlyIf(x >= 0, y);
                case 0x64: return onlyIf(x <= 0, y);
                case 0x66: return onlyIf(x > 0, y);
                default:
                    known = false;
                    return 0;
            }
        }

        private long onlyIf(boolean holds, long y) {
            given = holds;
            return y;
        }

        private long shift(int f, long x, long y) {
            int places = (int) y & 63;
            switch (f) {
                case 0x30: return x & ~bytesOf(y);
                case 0x31: return x & bytesOf(y);
                case 0x34: return x >>> places;
                case 0x39: return x << places;
                case 0x3C: return x >> places;
                default: break;
            }
            int n = 8 * ((int) y & 7);
            long mask = -1L >>> 64 - (8 << (f >> 4 & 3));
            return (f & 0x40) == 0 ? lowPart(f, x, n, mask) : highPart(f, x, n, mask);
        }

        private static long bytesOf(long bits) {
            long mask = 0;
            for (int i = 0; i < 8; i++) {
                if ((bits >> i & 1) != 0) {
                    mask |= 255L << 8 * i;
                }
            }
            return mask;
        }

        private long lowPart(int f, long x, int n, long mask) {
            switch (f & 15) {
                case 0x06: return x >>> n & mask;
                case 0x0B: return (x & mask) << n;
                case 0x02: return x & ~(mask << n);
                default:
                    known = false;
                    return 0;
            }
        }

        // A shift by 64 would be one by 0 in Java: hence the cases of n = 0.
        private long highPart(int f, long x, int n, long mask) {
            if ((f & 0x30) == 0) {
                known = false;
                return 0;
            }
            switch (f & 15) {
                case 0x0A: return (n == 0 ? x : x << 64 - n) & mask;
                case 0x07: return n == 0 ? 0 : (x & mask) >>> 64 - n;
                case 0x02: return n == 0 ? x : x & ~(mask >>> 64 - n);
                default:
                    known = false;
                    return 0;
            }
        }

        private long multiply(int f, long x, long y) {
            switch (f) {
                case 0x00: return sx(x * y);
                case 0x20: return x * y;
                case 0x30: return upper(x, y);
                case 0x40: return trapIf(sx(x * y) != sx(x) * sx(y), sx(x * y));
                case 0x60: return trapIf(signedUpper(upper(x, y), x, y) != x * y >> 63, x * y);
                default:
                    known = false;
                    return 0;
            }
        }

        // The product by halves of 32 bits, none of whose sums is above 64 bits.
        private static long upper(long x, long y) {
            long lowX = x & 0xFFFFFFFFL;
            long lowY = y & 0xFFFFFFFFL;
            long highX = x >>> 32;
            long highY = y >>> 32;
            long inner = highX * lowY + (lowX * lowY >>> 32);
            long outer = lowX * highY + (inner & 0xFFFFFFFFL);
            return highX * highY + (inner >>> 32) + (outer >>> 32);
        }

        // A number below 0 counts 2 to the 64th more without its sign.
        private static long signedUpper(long upper, long x, long y) {
            return upper - (x < 0 ? y : 0) - (y < 0 ? x : 0);
        }
    }
}
