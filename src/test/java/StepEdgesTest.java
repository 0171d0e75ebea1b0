/** The boundary cases of the terms and of a STEP. */
public final class StepEdgesTest {
    private static final long MIN = Long.MIN_VALUE;
    private static final long MAX = Long.MAX_VALUE;

    public static void main(String[] args) {
        Sentences document = new Sentences();
        document.holds("MEMORY has 4096 bytes, the lower byte of a number first.", StepEdgesTest::lowerByteFirst);
        document.holds("R31 is always 0.", StepEdgesTest::nothingChangesR31);
        document.holds("The MODE is 0 KERNEL or 1 USER, the LEVEL 0 .. 7; PS is 8 * mode + level.",
                StepEdgesTest::everyStatus);
        document.holds("Longs wrap", StepEdgesTest::longsWrap);
        document.holds("sx(v) is the lower 32 bits of v with their sign", StepEdgesTest::signOfTheLowerHalf);
        interrupts(document);
        instructions(document);
        document.end();
    }

    private static void lowerByteFirst(Check check) {
        Bench bench = new Bench().set(4088, 0x1122334455667788L).put(1, Bench.DIRECT + 4088).put(4, 5);
        bench.code(Code.memory(0x28, 2, 1, 0), Code.memory(0x28, 3, 1, 4), Code.memory(0x2C, 4, 1, 4));
        bench.run(3);
        check.is("the first four bytes", bench.r(2), 0x55667788);
        check.is("the last four bytes", bench.r(3), 0x11223344);
        check.is("the last four bytes are stored", bench.machine.word(4088), 0x555667788L);
        Bench order = new Bench().code(Code.memory(0x08, 1, 31, 1), Code.memory(0x08, 1, 1, 2));
        order.run(1);
        check.is("the lower half of a long is the first instruction", order.r(1), 1);
        order.run(1);
        check.is("the upper half is the second", order.r(1), 3);
    }

    private static void nothingChangesR31(Check check) {
        int[] codes = {
            Code.memory(0x08, 31, 1, 5), Code.memory(0x09, 31, 1, 5), Code.operate(0x10, 1, 1, 0x20, 31),
            Code.operate(0x11, 31, 1, 0x24, 31), Code.operate(0x12, 1, 31, 0x34, 31),
            Code.operate(0x13, 1, 1, 0x60, 31), Code.memory(0x28, 31, 1, 0), Code.memory(0x29, 31, 1, 0),
            Code.memory(0x2A, 31, 1, 0), Code.memory(0x2B, 31, 1, 0), Code.memory(0x2E, 31, 1, 8),
            Code.memory(0x2B, 31, 1, 0), Code.memory(0x2F, 31, 1, 8), Code.memory(0x0B, 31, 1, 0),
            Code.branch(0x30, 31, 0), Code.branch(0x34, 31, 0), Code.jump(31, 3)
        };
        Bench bench = new Bench().put(1, Bench.DIRECT + 1024).put(3, 4).set(1024, -1).code(codes);
        bench.put(31, -1);
        for (int i = 0; i < codes.length; i++) {
            bench.run(1);
            check.is("R31 after code " + i, bench.r(31), 0);
        }
        check.is("entries", bench.entries(), 0);
        check.is("PC", bench.r(32), 4);
        Bench reads = new Bench().put(31, -1).code(Code.operate(0x10, 31, 31, 0x20, 1), Code.memory(0x08, 2, 31, 7));
        reads.put(1, 1).run(2);
        check.is("0 + 0", reads.r(1), 0);
        check.is("0 + D", reads.r(2), 7);
    }

    private static void everyStatus(Check check) {
        for (int status = 0; status < 16; status++) {
            Bench bench = new Bench().set(1024, status).put(30, Bench.DIRECT + 1024).code(Code.call(0x3F));
            bench.run(1);
            check.is("PS", bench.status(), status);
        }
    }

    private static void longsWrap(Check check) {
        Bench bench = new Bench().put(1, MAX).put(2, MIN).put(3, -8).put(4, 9);
        bench.code(Code.literal(0x10, 1, 1, 0x20, 5), Code.literal(0x10, 2, 1, 0x29, 6),
                Code.literal(0x10, 1, 0, 0x32, 7), Code.memory(0x08, 8, 1, 1), Code.memory(0x08, 9, 2, -1),
                Code.memory(0x09, 10, 1, 1));
        bench.run(6);
        check.is("X + Y", bench.r(5), MIN);
        check.is("X - Y", bench.r(6), MAX);
        check.is("8X + Y", bench.r(7), -8);
        check.is("B + D", bench.r(8), MIN);
        check.is("B - D", bench.r(9), MAX);
        check.is("B + 65536 * D", bench.r(10), MIN + 65535);
        Bench load = new Bench().tables().page(0, 4, Bench.OPEN).set(1024, 77).put(1, -8);
        load.code(Code.memory(0x29, 2, 1, 8)).run(1);
        check.is("V comes to 0 from below", load.r(2), 77);
        Bench stack = new Bench().put(30, MIN + 40).code(Code.call(0x83));
        stack.run(1);
        check.is("R30 - 48 is far above the memory", stack.halted(), 2);
    }

    private static void signOfTheLowerHalf(Check check) {
        long[] values = {0, 0x7FFFFFFFL, 0x80000000L, 0xFFFFFFFFL, 0x100000000L, 0x17FFFFFFFL, -0x80000001L, MIN, -1};
        long[] due = {0, 0x7FFFFFFFL, -0x80000000L, -1, 0, 0x7FFFFFFFL, 0x7FFFFFFFL, 0, -1};
        for (int i = 0; i < values.length; i++) {
            Bench bench = new Bench().put(1, values[i]).code(Code.literal(0x10, 1, 0, 0x00, 2));
            bench.run(1);
            check.is("sx of " + values[i], bench.r(2), due[i]);
        }
    }

    private static void interrupts(Sentences document) {
        document.holds("if an interrupt is pending whose level is above the level", StepEdgesTest::levelIsAbove);
        document.holds("the highest of these", StepEdgesTest::highest);
        document.holds("(of equal ones the one told first)", StepEdgesTest::toldFirst);
        document.holds("goes out", StepEdgesTest::goesOut);
        document.holds("there is ENTRY 0 with its number, 0, 0", StepEdgesTest::entryOfInterrupts);
        document.holds("after which the level is that of the interrupt", StepEdgesTest::levelOfTheInterrupt);
    }

    private static Bench atLevel(int level) {
        return new Bench().vector(0, 400).level(level).code(Code.NOTHING, Code.NOTHING);
    }

    private static void levelIsAbove(Check check) {
        for (int level = 0; level <= 7; level++) {
            for (int told = 1; told <= 7; told++) {
                Bench bench = atLevel(level);
                bench.machine.interrupt(told, 9);
                bench.run(1);
                check.is(told + " at level " + level, bench.r(32), told > level ? 400 : Bench.CODE + 4);
                check.is("pending", bench.pending(), told > level ? 0 : 1);
            }
        }
    }

    private static void taken(Check check, int[] levels, int[] numbersDue) {
        Bench bench = atLevel(0);
        for (int i = 0; i < levels.length; i++) {
            bench.machine.interrupt(levels[i], 10 + i);
        }
        for (int due : numbersDue) {
            bench.run(1);
            check.is("the number taken", bench.r(16), due);
            bench.call(0x35, 0, 0);
        }
    }

    private static void highest(Check check) {
        int[][] orders = {{1, 4, 7, 2}, {7, 1, 2, 4}, {2, 7, 4, 1}, {4, 2, 1, 7}};
        int[] first = {12, 10, 11, 13};
        for (int i = 0; i < orders.length; i++) {
            Bench bench = atLevel(0);
            for (int k = 0; k < 4; k++) {
                bench.machine.interrupt(orders[i][k], 10 + k);
            }
            bench.run(1);
            check.is("the highest of order " + i, bench.r(16), first[i]);
            check.is("its level", bench.status(), 7);
        }
    }

    private static void toldFirst(Check check) {
        taken(check, new int[] {3, 3, 3, 3}, new int[] {10, 11, 12, 13});
        taken(check, new int[] {2, 5, 5, 2}, new int[] {11, 12, 10, 13});
        taken(check, new int[] {7, 1, 7, 7}, new int[] {10, 12, 13, 11});
    }

    private static void goesOut(Check check) {
        Bench bench = atLevel(4);
        bench.machine.interrupt(4, 1);
        bench.machine.interrupt(5, 2);
        bench.run(1);
        check.is("only the one", bench.pending(), 1);
        bench.put(16, -1).put(32, Bench.CODE).run(1);
        check.is("it does not come again", bench.r(16), -1);
        check.is("the other is still pending", bench.pending(), 1);
    }

    private static void entryOfInterrupts(Check check) {
        for (int number = 0; number < 256; number += 51) {
            Bench bench = atLevel(0).put(16, -16).put(17, -17).put(18, -18);
            bench.machine.interrupt(1, number);
            bench.run(1);
            check.is("R16", bench.r(16), number);
            check.is("R17", bench.r(17), 0);
            check.is("R18", bench.r(18), 0);
            check.is("PC", bench.r(32), 400);
            check.is("PC of that which would come", bench.machine.word(4056), Bench.CODE);
            check.is("entries", bench.entries(), 1);
        }
    }

    private static void levelOfTheInterrupt(Check check) {
        for (int level = 1; level <= 7; level++) {
            Bench bench = atLevel(level - 1);
            bench.machine.interrupt(level, 1);
            bench.run(1);
            check.is("PS", bench.status(), level);
            check.is("PS as it was", bench.machine.word(4048), level - 1);
        }
        Bench user = new Bench().userCode(Code.NOTHING);
        user.machine.interrupt(7, 1);
        user.run(1);
        check.is("from USER mode", user.status(), 7);
        check.is("PS as it was", user.machine.word(4048), 8);
    }

    private static void instructions(Sentences document) {
        document.holds("Otherwise the instruction of 4 bytes at PC is fetched (EXECUTE)", StepEdgesTest::fetches);
        document.holds("PC grows by 4", StepEdgesTest::growsByFour);
        document.holds("OP is bits 31 .. 26, A bits 25 .. 21, B bits 20 .. 16", StepEdgesTest::everyAAndB);
        document.holds("D bits 15 .. 0", StepEdgesTest::edgesOfD);
        document.holds("E bits 20 .. 0, both with sign", StepEdgesTest::edgesOfE);
    }

    private static void fetches(Check check) {
        Bench taken = new Bench().level(0).code(Code.memory(0x08, 1, 31, 5));
        taken.machine.interrupt(1, 1);
        check.is("steps", taken.run(1), 1);
        check.is("no instruction in the step of an interrupt", taken.r(1), 0);
        Bench otherwise = new Bench().level(1).code(Code.memory(0x08, 1, 31, 5));
        otherwise.machine.interrupt(1, 1);
        otherwise.run(1);
        check.is("otherwise it is done", otherwise.r(1), 5);
        Bench readable = new Bench().tables().page(0, 4, Bench.VALID | Bench.KERNEL_READ | Bench.ON_EXECUTE);
        readable.vector(2, 900).put(32, 0).run(1);
        check.is("the fetch is no READ", readable.r(17), 2);
        check.is("but EXECUTE", readable.r(18), -1);
    }

    private static void growsByFour(Check check) {
        Bench first = new Bench().codeAt(0, Code.NOTHING).put(32, Bench.DIRECT);
        first.run(1);
        check.is("behind the first instruction", first.r(32), Bench.DIRECT + 4);
        Bench last = new Bench().codeAt(4092, Code.NOTHING).put(32, Bench.DIRECT + 4092);
        last.run(1);
        check.is("behind the last instruction", last.r(32), Bench.DIRECT + 4096);
        Bench page = new Bench().tables().page(0, 4, Bench.OPEN).codeAt(1276, Code.NOTHING).put(32, 252);
        page.run(1);
        check.is("behind a page", page.r(32), 256);
        check.is("entries", first.entries() + last.entries() + page.entries(), 0);
    }

    private static void everyAAndB(Check check) {
        for (int r = 0; r < 31; r++) {
            Bench a = new Bench().code(Code.memory(0x08, r, 31, -1));
            a.run(1);
            check.is("A " + r, a.r(r), -1);
            Bench b = new Bench().put(r, 44).code(Code.memory(0x08, r ^ 1, r, 0), Code.branch(0x3F, r, 9));
            b.run(2);
            check.is("B " + r, b.r(r ^ 1), (r ^ 1) == 31 ? 0 : 44);
            check.is("X is register " + r, b.r(32), Bench.CODE + 44);
        }
    }

    private static void edgesOfD(Check check) {
        int[] edges = {0, 1, 0x7FFF, 0x8000, 0xFFFF};
        long[] due = {0, 1, 32767, -32768, -1};
        for (int i = 0; i < edges.length; i++) {
            Bench bench = new Bench().code(Code.memory(0x08, 1, 31, edges[i]), Code.memory(0x09, 2, 31, edges[i]));
            bench.run(2);
            check.is("D " + edges[i], bench.r(1), due[i]);
            check.is("65536 * D " + edges[i], bench.r(2), 65536 * due[i]);
        }
    }

    private static void edgesOfE(Check check) {
        int[] edges = {0, 1, 0xFFFFF, 0x100000, 0x1FFFFF};
        long[] due = {0, 1, 1048575, -1048576, -1};
        for (int i = 0; i < edges.length; i++) {
            Bench bench = new Bench().code(Code.branch(0x30, 31, edges[i]));
            bench.run(1);
            check.is("E " + edges[i], bench.r(32), Bench.CODE + 4 + 4 * due[i]);
        }
    }
}
