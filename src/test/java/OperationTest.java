/** Promise 5, the OPs 10h to 13h: every F, on edges, with a register and with a literal. */
public final class OperationTest {
    private static final Check CHECK = new Check();
    private static final OperationModel MODEL = new OperationModel();
    private static final int KNOWN = 20 + 14 + 5 + 12 + 9 + 5;
    private static final long[] VALUES = {
        0, 1, 2, 3, 4, 5, 6, 7, 8, 63, 64, 127, 128, 255, 256, -1, -2, -7, -8,
        0x7FFF, 0x10000, 46340, 46341, 0x7FFFFFFF, 0x80000000L, 0xFFFFFFFFL, 0x100000000L,
        -0x80000000L, -0x80000001L, 3037000499L, 3037000500L, -3037000500L,
        0x0123456789ABCDEFL, 0xFEDCBA9876543210L, 0x8000000080000000L, 0x8040201008040201L,
        0x5555555555555555L, 0xAAAAAAAAAAAAAAAAL, 0x4000000000000000L, 0x2000000000000000L,
        Long.MAX_VALUE, Long.MAX_VALUE - 1, Long.MIN_VALUE, Long.MIN_VALUE + 1
    };
    private static final int[] LITERALS = {0, 1, 2, 3, 7, 8, 63, 64, 65, 127, 128, 254, 255};

    public static void main(String[] args) {
        int known = 0;
        for (int op = 0x10; op <= 0x13; op++) {
            for (int f = 0; f < 128; f++) {
                MODEL.compute(op, f, 1, 1);
                if (MODEL.outcome == OperationModel.UNKNOWN) {
                    unknown(op, f);
                } else {
                    known++;
                    onValues(op, f);
                }
            }
        }
        CHECK.is("Fs that the document tells", known, KNOWN);
        registersInUse();
        ignoredBits();
        trapBehindTheInstruction();
        trapOnlyWhereItIsDue();
        CHECK.end();
    }

    private static String name(int op, int f, long x, long y) {
        return Integer.toHexString(op) + "." + Integer.toHexString(f) + " of "
                + Long.toHexString(x) + ", " + Long.toHexString(y);
    }

    private static void onValues(int op, int f) {
        for (long x : VALUES) {
            for (long y : VALUES) {
                Bench bench = new Bench().put(1, x).put(2, y).put(3, 0x77777);
                bench.code(Code.operate(op, 1, 2, f, 3));
                compare(bench, op, f, x, y);
            }
            for (int y : LITERALS) {
                Bench bench = new Bench().put(1, x).put(3, 0x77777);
                bench.code(Code.literal(op, 1, y, f, 3));
                compare(bench, op, f, x, y);
            }
        }
    }

    private static void compare(Bench bench, int op, int f, long x, long y) {
        MODEL.compute(op, f, x, y);
        bench.run(1);
        boolean trap = MODEL.outcome == OperationModel.TRAP;
        boolean given = MODEL.outcome != OperationModel.NO_RESULT;
        CHECK.is(name(op, f, x, y), bench.r(3), given ? MODEL.result : 0x77777);
        CHECK.is(name(op, f, x, y) + ", entries", bench.entries(), trap ? 1 : 0);
        CHECK.is(name(op, f, x, y) + ", PC", bench.r(32), trap ? 0 : Bench.CODE + 4);
    }

    private static void unknown(int op, int f) {
        Bench bench = new Bench().vector(3, 400).put(1, 5).put(2, 6).put(3, 7);
        bench.code(Code.operate(op, 1, 2, f, 3));
        bench.run(1);
        String name = name(op, f, 5, 6);
        CHECK.is(name + ", R16", bench.r(16), 4);
        CHECK.is(name + ", PC", bench.r(32), 400);
        CHECK.is(name + ", PC as it was", bench.machine.word(4056), Bench.CODE);
        CHECK.is(name + ", no result", bench.r(3), 7);
    }

    private static void registersInUse() {
        Bench bench = new Bench().put(9, 100).put(10, 3).put(31, 5);
        bench.code(Code.operate(0x10, 9, 10, 0x20, 9), Code.operate(0x10, 9, 31, 0x20, 11),
                Code.operate(0x10, 31, 10, 0x29, 12), Code.operate(0x10, 9, 10, 0x20, 31),
                Code.literal(0x11, 31, 255, 0x20, 30));
        bench.run(5);
        CHECK.is("the same register", bench.r(9), 103);
        CHECK.is("R31 as Y", bench.r(11), 103);
        CHECK.is("R31 as X", bench.r(12), -3);
        CHECK.is("R31 stays 0", bench.r(31), 0);
        CHECK.is("a literal has no sign", bench.r(30), 255);
    }

    // Bits 15 to 13 are free if Y is a register.
    private static void ignoredBits() {
        for (int free = 0; free < 8; free++) {
            Bench bench = new Bench().put(1, 40).put(2, 2);
            bench.code(Code.operate(0x10, 1, 2, 0x20, 3) | free << 13);
            bench.run(1);
            CHECK.is("bits 15 to 13 are " + free, bench.r(3), 42);
        }
    }

    private static void trapBehindTheInstruction() {
        Bench bench = new Bench().vector(1, 4000).globalPointer(29).put(1, Long.MAX_VALUE);
        bench.put(17, 17).put(18, 18).put(29, 9);
        bench.code(Code.literal(0x10, 1, 1, 0x60, 16));
        bench.run(1);
        long[] due = {7, Bench.CODE + 4, 9, Long.MIN_VALUE, 17, 18};
        for (int i = 0; i < 6; i++) {
            CHECK.is("stored " + i, bench.machine.word(4048 + 8 * i), due[i]);
        }
        CHECK.is("R16", bench.r(16), 0);
        CHECK.is("R17", bench.r(17), 0);
        CHECK.is("R18", bench.r(18), 0);
        CHECK.is("R29", bench.r(29), 29);
        CHECK.is("PC", bench.r(32), 4000);
        CHECK.is("PS", bench.status(), 7);

        Bench stack = new Bench().put(1, Long.MAX_VALUE).code(Code.literal(0x10, 1, 1, 0x60, 30));
        stack.run(1);
        CHECK.is("R30 is written before the entry", stack.halted(), 2);
        CHECK.is("R30", stack.r(30), Long.MIN_VALUE);

        Bench zero = new Bench().put(1, Long.MAX_VALUE).code(Code.literal(0x10, 1, 1, 0x60, 31));
        zero.run(1);
        CHECK.is("R31 traps, too", zero.entries(), 1);
        CHECK.is("R31", zero.r(31), 0);
    }

    // A trap or a result that was missing must not show in the next instruction.
    private static void trapOnlyWhereItIsDue() {
        Bench bench = new Bench().vector(1, Bench.CODE + 4).put(1, Long.MAX_VALUE);
        bench.code(Code.literal(0x10, 1, 1, 0x60, 2), Code.literal(0x11, 31, 9, 0x26, 3),
                Code.literal(0x10, 31, 1, 0x60, 4));
        bench.run(3);
        CHECK.is("entries", bench.entries(), 1);
        CHECK.is("no result", bench.r(3), 0);
        CHECK.is("a result", bench.r(4), 1);
        CHECK.is("PC", bench.r(32), Bench.CODE + 12);
    }
}
