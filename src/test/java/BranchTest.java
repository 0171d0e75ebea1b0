/** Promise 5, the branches, what does nothing, and the OPs that there are not. */
public final class BranchTest {
    private static final Check CHECK = new Check();
    private static final long[] VALUES = {0, 1, 2, -1, -2, Long.MAX_VALUE, Long.MIN_VALUE, 0x100000000L};
    private static final int[] KNOWN = {
        0x00, 0x08, 0x09, 0x0B, 0x0F, 0x10, 0x11, 0x12, 0x13, 0x18, 0x1A,
        0x28, 0x29, 0x2A, 0x2B, 0x2C, 0x2D, 0x2E, 0x2F, 0x30, 0x34,
        0x38, 0x39, 0x3A, 0x3B, 0x3C, 0x3D, 0x3E, 0x3F
    };

    public static void main(String[] args) {
        conditions();
        distances();
        always();
        jumps();
        nothing();
        unknownOps();
        CHECK.end();
    }

    private static boolean isTaken(int op, long x) {
        switch (op) {
            case 0x38: return x % 2 == 0;
            case 0x39: return x == 0;
            case 0x3A: return x < 0;
            case 0x3B: return !(x > 0);
            case 0x3C: return x % 2 != 0;
            case 0x3D: return x != 0;
            case 0x3E: return !(x < 0);
            default: return x > 0;
        }
    }

    private static void conditions() {
        for (int op = 0x38; op <= 0x3F; op++) {
            for (long x : VALUES) {
                Bench bench = new Bench().put(1, x).code(Code.branch(op, 1, 5));
                bench.run(1);
                String name = Integer.toHexString(op) + " of " + x;
                CHECK.is(name, bench.r(32), Bench.CODE + 4 + (isTaken(op, x) ? 20 : 0));
                CHECK.is(name + ", R1", bench.r(1), x);
            }
        }
    }

    private static void distances() {
        int[] distances = {0, 1, -1, -2, 0xFFFFF, -0x100000};
        for (int e : distances) {
            for (int op : new int[] {0x30, 0x34, 0x39}) {
                Bench bench = new Bench().code(Code.branch(op, 31, e));
                bench.run(1);
                CHECK.is(Integer.toHexString(op) + " by " + e, bench.r(32), Bench.CODE + 4 + 4L * e);
                CHECK.is("R31", bench.r(31), 0);
                CHECK.is("no entry", bench.entries(), 0);
            }
        }
    }

    private static void always() {
        for (int op : new int[] {0x30, 0x34}) {
            Bench bench = new Bench().put(4, -4).code(Code.branch(op, 4, 100));
            bench.run(1);
            CHECK.is("PC", bench.r(32), Bench.CODE + 404);
            CHECK.is("A", bench.r(4), Bench.CODE + 4);
        }
    }

    private static void jumps() {
        long[] targets = {0, 1, 2, 3, 4, 4000, -1, Long.MAX_VALUE, Long.MIN_VALUE};
        for (long target : targets) {
            Bench bench = new Bench().put(2, target).code(Code.jump(3, 2) | 0x7FFF);
            bench.run(1);
            CHECK.is("PC for " + target, bench.r(32), target & ~3L);
            CHECK.is("A", bench.r(3), Bench.CODE + 4);
            CHECK.is("B", bench.r(2), target);
        }
        Bench same = new Bench().put(2, 4003).code(Code.jump(2, 2));
        same.run(1);
        CHECK.is("B is read before", same.r(32), 4000);
        CHECK.is("A", same.r(2), Bench.CODE + 4);
    }

    private static void nothing() {
        for (int rest : new int[] {0, 0x4000, 0x3FFFFFF}) {
            Bench bench = new Bench().code(Code.NOTHING | rest);
            CHECK.is("steps", bench.run(1), 1);
            CHECK.is("PC", bench.r(32), Bench.CODE + 4);
            CHECK.is("entries", bench.entries(), 0);
            for (int r = 0; r < 32; r++) {
                CHECK.is("R" + r, bench.r(r), r == 30 ? Bench.STACK : 0);
            }
        }
    }

    private static void unknownOps() {
        for (int op = 0; op < 64; op++) {
            boolean known = false;
            for (int k : KNOWN) {
                known |= k == op;
            }
            if (!known) {
                unknown(op, 0);
                unknown(op, 0x3FFFFFF);
            }
        }
    }

    private static void unknown(int op, int rest) {
        Bench bench = new Bench().vector(3, 400).put(16, 1).put(17, 2).put(18, 3);
        bench.code(op << 26 | rest).run(1);
        String name = "OP " + Integer.toHexString(op);
        CHECK.is(name + ", entries", bench.entries(), 1);
        CHECK.is(name + ", PC", bench.r(32), 400);
        CHECK.is(name + ", R16", bench.r(16), 4);
        CHECK.is(name + ", R17", bench.r(17), 0);
        CHECK.is(name + ", R18", bench.r(18), 0);
        CHECK.is(name + ", PC as it was", bench.machine.word(4056), Bench.CODE);
        CHECK.is(name + ", PS", bench.status(), 7);
    }
}
