/**
 * Promise 5 for code that nobody wrote: whatever stands in memory and registers,
 * no call throws, what is answered stays in its range, and the same calls give
 * the same answers. The numbers come from a fixed rule, so every run is the same.
 */
public final class AnyProgramTest {
    private static final Check CHECK = new Check();
    private static final int[] OPS = {
        0x00, 0x08, 0x09, 0x0B, 0x0F, 0x10, 0x11, 0x12, 0x13, 0x18, 0x1A, 0x28, 0x29, 0x2A, 0x2B,
        0x2C, 0x2D, 0x2E, 0x2F, 0x30, 0x34, 0x38, 0x39, 0x3A, 0x3B, 0x3C, 0x3D, 0x3E, 0x3F
    };
    private static final int[] CALLS = {
        0x80, 0x81, 0xAA, 0x83, 0x86, 0x3F, 0x34, 0x35, 0x36, 0x37, 0x38, 0x3A, 0x31, 0x32, 0x33, 0x30
    };
    private static final int OBJECTS = 3000;

    private static int users = 0;

    private long seed;

    public static void main(String[] args) {
        long entries = 0;
        long buffered = 0;
        for (int i = 0; i < OBJECTS; i++) {
            Bench bench = new AnyProgramTest(i).play();
            Bench again = new AnyProgramTest(i).play();
            CHECK.is("object " + i + " played again", digest(bench), digest(again));
            entries += bench.entries();
            buffered += bench.buffered();
        }
        CHECK.isTrue("entries: " + entries, entries > OBJECTS);
        CHECK.isTrue("runs that ended in user mode: " + users, users > 100);
        CHECK.isTrue("descriptors: " + buffered, buffered > OBJECTS);
        CHECK.end();
    }

    private AnyProgramTest(int i) {
        seed = 7919L * i + 1;
    }

    private int next(int bound) {
        seed = seed * 6364136223846793005L + 1442695040888963407L;
        return (int) ((seed >>> 33) % bound);
    }

    private int anyCode() {
        int op = OPS[next(OPS.length)];
        int rest = next(1 << 26);
        if (op == 0) {
            return CALLS[next(CALLS.length)];
        }
        if (op >= 0x30) {
            return Code.branch(op, next(32), next(40) - 20);
        }
        boolean near = op >= 0x28 || op == 0x0B || op == 0x0F;
        return near ? Code.memory(op, next(32), next(32), 8 * (next(300) - 100)) : op << 26 | rest;
    }

    private long anyValue() {
        switch (next(5)) {
            case 0: return next(16384) & ~7;
            case 1: return Bench.DIRECT + (next(4096) & ~7);
            case 2: return next(Integer.MAX_VALUE) * 0x123456789L;
            case 3: return next(200) - 100;
            default: return Bench.CODE + 4 * next(200);
        }
    }

    private Bench play() {
        Bench bench = new Bench().tables();
        for (int page = 0; page < 4; page++) {
            bench.page(page, 1 + next(7), next(4) == 0 ? next(256) : Bench.OPEN);
        }
        for (int r = 0; r < 30; r++) {
            bench.put(r, anyValue());
        }
        for (int k = 0; k < 6; k++) {
            bench.vector(k, next(3) == 0 ? 4 * next(256) : Bench.CODE + 4 * next(100));
        }
        for (int place = 256; place < 1024; place += 8) {
            bench.set(place, (long) anyCode() << 32 | anyCode() & 0xFFFFFFFFL);
        }
        bench.level(next(8));
        if (next(2) == 0) {
            bench.user(next(8), 4 * next(256), anyValue());
        }
        for (int i = 0; i < 8; i++) {
            bench.machine.interrupt(next(9), next(256));
            int n = next(2) == 0 ? 1 : 1 + next(31);
            looksRight(bench, bench.halted() != 0, n, bench.run(n));
            users += bench.status() >> 3;
        }
        return bench;
    }

    private static void looksRight(Bench bench, boolean wasHalted, int n, int steps) {
        boolean halted = bench.halted() != 0;
        CHECK.isTrue("steps", wasHalted ? steps == 0 : halted ? steps >= 1 && steps <= n : steps == n);
        CHECK.is("R31", bench.r(31), 0);
        CHECK.is("PC's lower bits", bench.r(32) & 3, 0);
        CHECK.isTrue("PS", bench.status() >= 0 && bench.status() < 16);
        CHECK.isTrue("halted", bench.halted() >= 0 && bench.halted() <= 3);
        CHECK.isTrue("buffer", bench.buffered() >= 0 && bench.buffered() <= 4);
        CHECK.isTrue("pending", bench.machine.state(4) >= 0 && bench.machine.state(4) <= 4);
        CHECK.is("TABLE", bench.r(37) & ~4064, 0);
        CHECK.is("SPACE", bench.r(38) & ~255, 0);
    }

    private static long digest(Bench bench) {
        long sum = 0;
        for (int r = 0; r <= 45; r++) {
            sum = 31 * sum + bench.r(r);
        }
        for (int what = 0; what <= 5; what++) {
            sum = 31 * sum + bench.machine.state(what);
        }
        return sum;
    }
}
