/**
 * Promises 1 to 8 for code that nobody wrote: whatever stands in memory and
 * registers, no call throws, and the program answers what the model answers. The
 * numbers come from a fixed rule, so every run of this test is the same.
 */
public final class AnyProgramTest {
    private static final Check CHECK = new Check();
    private static final int[] OPS = {
        0x00, 0x08, 0x09, 0x0B, 0x0F, 0x10, 0x11, 0x12, 0x13, 0x18, 0x1A, 0x28, 0x29, 0x2A, 0x2B,
        0x2C, 0x2D, 0x2E, 0x2F, 0x30, 0x34, 0x38, 0x39, 0x3A, 0x3B, 0x3C, 0x3D, 0x3E, 0x3F
    };
    private static final int[] CALLS = {
        0x80, 0x81, 0xAA, 0x83, 0x86, 0x3F, 0x34, 0x35, 0x36, 0x37, 0x38, 0x3A, 0x31, 0x32, 0x33, 0x30
    };
    private static final int OBJECTS = 3000;
    private static final int RUNS = 8;
    // An object has 512 calls, so that each play of a program looks at one part of the memory.
    private static final int PART = 4096 / RUNS;
    private static final int HANDLER = 3072;

    private static int users;
    private static int locks;
    private static int fullBuffers;
    private static int entries;
    private static final int[] HALTED = new int[4];

    private final MachineModel model = new MachineModel();
    private final Bench bench = new Bench(model);
    private long seed;

    public static void main(String[] args) {
        for (int i = 0; i < OBJECTS; i++) {
            for (int runs = 1; runs <= RUNS; runs++) {
                new AnyProgramTest(i).play(i, runs);
            }
        }
        CHECK.isTrue("plays that ended in user mode: " + users, users > OBJECTS);
        CHECK.isTrue("with the lock on: " + locks, locks > OBJECTS / 10);
        CHECK.isTrue("with a full buffer: " + fullBuffers, fullBuffers > OBJECTS / 10);
        CHECK.isTrue("entries: " + entries, entries > OBJECTS);
        for (int how = 0; how < HALTED.length; how++) {
            CHECK.isTrue("halted with " + how + ": " + HALTED[how], HALTED[how] > 10);
        }
        CHECK.end();
    }

    private AnyProgramTest(int i) {
        seed = 7919L * i + 1;
    }

    private int next(int bound) {
        seed = seed * 6364136223846793005L + 1442695040888963407L;
        return (int) ((seed >>> 33) % bound);
    }

    private int anyCode() {
        int op = OPS[next(OPS.length)];
        int rest = next(1 << 26);
        if (op == 0) {
            return next(40) == 0 ? next(256) : CALLS[next(CALLS.length)];
        }
        if (op >= 0x30) {
            return Code.branch(op, next(32), next(40) - 20);
        }
        boolean near = op >= 0x28 || op == 0x0B || op == 0x0F;
        return near ? Code.memory(op, next(32), next(32), 8 * (next(64) - 16)) : op << 26 | rest;
    }

    private long anyValue() {
        switch (next(8)) {
            case 0: case 1: case 2: case 3: return next(next(4) == 0 ? 20000 : 4096) & ~7;
            case 4: return Bench.DIRECT + (next(4096) & ~7);
            case 5: return next(Integer.MAX_VALUE) * 0x123456789L;
            case 6: return next(200) - 100;
            default: return Bench.CODE + 4 * next(200);
        }
    }

    // Most entries come back behind the instruction, so that a program in user mode goes on.
    private long anyVector(int k) {
        switch (next(20)) {
            case 0: return 4 * next(256);
            case 1: return Bench.CODE + 4 * next(100);
            default: return Bench.DIRECT + HANDLER + (k >= 2 && k <= 4 ? 0 : 12);
        }
    }

    private void prepare() {
        bench.tables();
        for (int page = 0; page < 4; page++) {
            bench.page(page, 1 + next(7), next(4) == 0 ? next(256) : Bench.OPEN);
        }
        for (int r = 0; r < 30; r++) {
            bench.put(r, anyValue());
        }
        bench.codeAt(HANDLER, Code.memory(0x29, 1, 30, 8), Code.memory(0x08, 1, 1, 4), Code.memory(0x2D, 1, 30, 8),
                Code.call(0x3F));
        for (int k = 0; k < 6; k++) {
            bench.vector(k, anyVector(k));
        }
        for (int place = 256; place < 1024; place += 8) {
            bench.set(place, (long) anyCode() << 32 | anyCode() & 0xFFFFFFFFL);
        }
        bench.level(next(8));
        if (next(4) != 0) {
            bench.user(next(8), 4 * next(256), anyValue());
        }
    }

    private void play(int object, int runs) {
        prepare();
        String name = "object " + object + ", runs " + runs + ", ";
        for (int i = 0; i < runs; i++) {
            int level = next(9);
            int number = next(257);
            CHECK.is(name + "interrupt", bench.machine.interrupt(level, number), model.interrupt(level, number));
            int n = next(2) == 0 ? 1 : next(33);
            CHECK.is(name + "run", bench.machine.run(n), model.run(n));
        }
        compare(name, PART * (runs - 1));
        users += bench.status() >> 3;
        locks += bench.locked() ? 1 : 0;
        fullBuffers += bench.buffered() / 4;
        entries += bench.entries();
        HALTED[bench.halted()]++;
    }

    private void compare(String name, int start) {
        for (int r = 0; r <= 45; r++) {
            CHECK.is(name + "register " + r, bench.r(r), model.register(r));
        }
        for (int what = 0; what <= 5; what++) {
            CHECK.is(name + "state " + what, bench.machine.state(what), model.state(what));
        }
        for (int address = start; address < start + PART; address += 8) {
            CHECK.is(name + "word " + address, bench.machine.word(address), model.word(address));
        }
    }
}
