/**
 * A new machine with what a test needs around it: code, tables, vectors, user
 * mode. What it does for that leaves the registers and the memory as they were,
 * but for what it is asked to change.
 */
final class Bench {
    /** Where the kernel finds place 0 of the memory. */
    static final int DIRECT = 32768;
    /** Where the code of most tests stands. */
    static final int CODE = DIRECT + 256;
    /** The stack that a new bench gives the kernel; its end is the memory's end. */
    static final int STACK = DIRECT + 4096;

    static final int TABLE = 2048;
    static final int SECOND = 9;
    static final int THIRD = 10;
    /** The number of the page in which userCode writes. */
    static final int USER_PAGE = 3;

    static final int VALID = 1;
    static final int ON_READ = 2;
    static final int ON_WRITE = 4;
    static final int ON_EXECUTE = 8;
    static final int KERNEL_READ = 16;
    static final int USER_READ = 32;
    static final int KERNEL_WRITE = 64;
    static final int USER_WRITE = 128;
    static final int OPEN = VALID | KERNEL_READ | USER_READ | KERNEL_WRITE | USER_WRITE;

    private static final int HELPER = 4088;
    private static final int HELPER_FRAME = 4040;

    final LongMachine machine = new LongMachine();
    /** Gets each call that goes through the bench, too; null in most tests. */
    private final MachineModel model;

    Bench() {
        this(null);
    }

    Bench(MachineModel model) {
        this.model = model;
        put(32, CODE).put(30, STACK).put(33, STACK);
    }

    static long descriptor(int number, int bits) {
        return (long) number << 32 | bits & 0xFFFFFFFFL;
    }

    /** Writes instructions from a place on. */
    Bench codeAt(int place, int... codes) {
        for (int i = 0; i < codes.length; i++) {
            int at = place + 4 * i;
            int shift = 8 * (at & 4);
            long kept = machine.word(at & ~7) & ~(0xFFFFFFFFL << shift);
            set(at & ~7, kept | (codes[i] & 0xFFFFFFFFL) << shift);
        }
        return this;
    }

    /** Writes instructions where the PC of a new bench stands. */
    Bench code(int... codes) {
        return codeAt(CODE - DIRECT, codes);
    }

    Bench put(int r, long v) {
        machine.put(r, v);
        if (model != null) {
            model.put(r, v);
        }
        return this;
    }

    Bench set(int address, long v) {
        machine.set(address, v);
        if (model != null) {
            model.set(address, v);
        }
        return this;
    }

    /** What calls tell of the machine: all but most of its memory. */
    String seen() {
        StringBuilder text = new StringBuilder();
        for (int r = 0; r <= 45; r++) {
            text.append(r(r)).append(' ');
        }
        for (int what = 0; what <= 5; what++) {
            text.append(machine.state(what)).append(' ');
        }
        for (int address = 0; address < 64; address += 8) {
            text.append(machine.word(address)).append(' ').append(machine.word(256 + address)).append(' ')
                    .append(machine.word(4032 + address)).append(' ');
        }
        return text.toString();
    }

    long r(int r) {
        return machine.register(r);
    }

    int run(int n) {
        if (model != null) {
            model.run(n);
        }
        return machine.run(n);
    }

    int pending() {
        return machine.state(4);
    }

    int status() {
        return machine.state(0);
    }

    boolean locked() {
        return machine.state(1) == 1;
    }

    int halted() {
        return machine.state(2);
    }

    int buffered() {
        return machine.state(3);
    }

    int entries() {
        return machine.state(5);
    }

    /** Does a call of the kernel with these in R16 and R17; PC, R0, R16 and R17 are as before after it. */
    Bench call(int number, long r16, long r17) {
        long[] before = {r(0), r(16), r(17), r(32), machine.word(HELPER)};
        put(16, r16).put(17, r17).put(32, DIRECT + HELPER);
        set(HELPER, Code.call(number));
        run(1);
        put(0, before[0]).put(16, before[1]).put(17, before[2]).put(32, before[3]);
        set(HELPER, before[4]);
        return this;
    }

    Bench vector(int k, long address) {
        return call(0x34, address, k);
    }

    Bench level(int level) {
        return call(0x35, level, 0);
    }

    Bench globalPointer(long v) {
        return call(0x37, v, 0);
    }

    Bench space(int table, int space) {
        return call(0x30, table, space);
    }

    /** Gives the machine its three tables; no page is valid yet. */
    Bench tables() {
        set(TABLE, descriptor(SECOND, VALID));
        for (int i = 0; i < 4; i++) {
            set(256 * SECOND + 8 * i, descriptor(THIRD, VALID));
        }
        return space(TABLE, 5);
    }

    /** Page 0 .. 3 of the tables; pages 4 .. 15 say the same as these. */
    Bench page(int page, int number, int bits) {
        return set(256 * THIRD + 8 * page, descriptor(number, bits));
    }

    /** Goes on in user mode with these instructions at address 0; page 0 is open. */
    Bench userCodeAtLevel(int level, int... codes) {
        return tables().page(0, USER_PAGE, OPEN).codeAt(256 * USER_PAGE, codes).user(level, 0, 0);
    }

    Bench userCode(int... codes) {
        return userCodeAtLevel(0, codes);
    }

    /** Goes on in user mode at an address with this R30; KSP becomes what R30 was. */
    Bench user(int level, long pc, long stack) {
        long[] before = new long[6];
        for (int i = 0; i < 6; i++) {
            before[i] = machine.word(HELPER_FRAME + 8 * i);
        }
        long kernelStack = r(30);
        set(HELPER_FRAME, 8 + level);
        set(HELPER_FRAME + 8, pc);
        set(HELPER_FRAME + 16, r(29));
        set(HELPER_FRAME + 24, r(16));
        set(HELPER_FRAME + 32, r(17));
        set(HELPER_FRAME + 40, r(18));
        int place = CODE - DIRECT;
        long code = machine.word(place);
        set(place, Code.call(0x3F)).put(32, CODE).put(30, DIRECT + HELPER_FRAME);
        run(1);
        set(place, code).put(33, kernelStack).put(30, stack);
        for (int i = 0; i < 6; i++) {
            set(HELPER_FRAME + 8 * i, before[i]);
        }
        return this;
    }
}
