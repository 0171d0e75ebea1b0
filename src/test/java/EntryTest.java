/** Promise 5, ENTRY: what is stored, what becomes of the registers, and how it halts. */
public final class EntryTest {
    private static final Check CHECK = new Check();
    private static final int GO_CALL = 0x83;

    public static void main(String[] args) {
        fromKernel();
        fromUser();
        eachVector();
        everyStackOffset();
        refusedStacks();
        haltsInUserMode();
        storesBeforeAFaultStay();
        storesThroughThePages();
        storesComeIntoTheBuffer();
        storesMayChangeTheTables();
        CHECK.end();
    }

    private static Bench bench() {
        Bench bench = new Bench().globalPointer(2929);
        for (int k = 0; k < 6; k++) {
            bench.vector(k, 400 + 16 * k);
        }
        return bench.put(29, -29).put(16, -16).put(17, -17).put(18, -18);
    }

    private static void frameIs(Bench bench, int place, long status, long pc) {
        long[] due = {status, pc, -29, -16, -17, -18};
        for (int i = 0; i < 6; i++) {
            CHECK.is("stored " + i, bench.machine.word(place + 8 * i), due[i]);
        }
    }

    private static void fromKernel() {
        Bench bench = bench().level(3).put(1, Bench.DIRECT).put(30, Bench.DIRECT + 2000).put(33, 3333);
        bench.code(Code.memory(0x2B, 2, 1, 0), Code.call(GO_CALL));
        CHECK.is("steps", bench.run(2), 2);
        frameIs(bench, 1952, 3, Bench.CODE + 8);
        CHECK.is("below it", bench.machine.word(1944), 0);
        CHECK.is("above it", bench.machine.word(2000), 0);
        CHECK.is("R30", bench.r(30), Bench.DIRECT + 1952);
        CHECK.is("R29", bench.r(29), 2929);
        CHECK.is("R16", bench.r(16), -16);
        CHECK.is("R17", bench.r(17), -17);
        CHECK.is("R18", bench.r(18), -18);
        CHECK.is("PC", bench.r(32), 480);
        CHECK.is("KSP", bench.r(33), 3333);
        CHECK.is("USP", bench.r(34), 0);
        CHECK.is("PS", bench.status(), 3);
        CHECK.is("the lock", bench.locked(), false);
        CHECK.is("entries", bench.entries(), 1);
        CHECK.is("halted", bench.halted(), 0);
    }

    private static void fromUser() {
        Bench bench = bench().tables().page(0, 3, Bench.OPEN).codeAt(768, Code.NOTHING, Code.call(GO_CALL));
        bench.user(2, 0, 777).put(33, Bench.DIRECT + 2000);
        CHECK.is("PS before", bench.status(), 10);
        CHECK.is("steps", bench.run(2), 2);
        frameIs(bench, 1952, 10, 8);
        CHECK.is("USP", bench.r(34), 777);
        CHECK.is("KSP", bench.r(33), Bench.DIRECT + 2000);
        CHECK.is("R30", bench.r(30), Bench.DIRECT + 1952);
        CHECK.is("PC", bench.r(32), 480);
        CHECK.is("the level stays", bench.status(), 2);
        CHECK.is("R29", bench.r(29), 2929);
    }

    private static void eachVector() {
        int misaligned = Code.memory(0x29, 1, 31, 1);
        int faulting = Code.memory(0x29, 1, 31, 16384);
        int trapping = Code.literal(0x13, 5, 4, 0x60, 1);
        int[] codes = {trapping, faulting, Code.call(0x99), misaligned, Code.call(GO_CALL)};
        long[] stored = {4, 0, 0, 0, 4};
        for (int k = 1; k <= 5; k++) {
            Bench bench = bench().put(5, Long.MAX_VALUE).code(codes[k - 1]);
            bench.run(1);
            CHECK.is("vector " + k, bench.r(32), 400 + 16 * k);
            frameIs(bench, 4048, 7, Bench.CODE + stored[k - 1]);
        }
        Bench bench = bench().level(0);
        bench.machine.interrupt(1, 1);
        bench.run(1);
        CHECK.is("vector 0", bench.r(32), 400);
        frameIs(bench, 4048, 0, Bench.CODE);
    }

    private static void everyStackOffset() {
        for (int i = 0; i < 8; i++) {
            Bench bench = bench().put(30, Bench.DIRECT + 2000 + i).code(Code.call(GO_CALL));
            bench.run(1);
            CHECK.is("halted at " + i, bench.halted(), i == 0 ? 0 : 2);
            CHECK.is("entries at " + i, bench.entries(), i == 0 ? 1 : 0);
            CHECK.is("R30 at " + i, bench.r(30), Bench.DIRECT + (i == 0 ? 1952 : 2000 + i));
            CHECK.is("stored at " + i, bench.machine.word(1952), i == 0 ? 7 : 0);
        }
    }

    // Nothing but the mode and the stack is changed by an entry that halts.
    private static void refusedStacks() {
        long[] stacks = {0, 40, 48, 16384 + 48, 32768, 32768 + 40, 36872, 65536, -8, Long.MIN_VALUE, Long.MAX_VALUE - 7};
        for (long stack : stacks) {
            Bench bench = bench().put(1, Bench.DIRECT).put(30, stack);
            bench.code(Code.memory(0x2B, 2, 1, 0), Code.call(GO_CALL));
            CHECK.is("steps", bench.run(31), 2);
            CHECK.is("halted at " + stack, bench.halted(), 2);
            CHECK.is("R30", bench.r(30), stack);
            CHECK.is("R29", bench.r(29), -29);
            CHECK.is("R16", bench.r(16), -16);
            CHECK.is("PC", bench.r(32), Bench.CODE + 8);
            CHECK.isTrue("the lock", bench.locked());
            CHECK.is("entries", bench.entries(), 0);
            CHECK.is("PS", bench.status(), 7);
        }
        long[] fine = {32768 + 48, 36864};
        for (long stack : fine) {
            Bench bench = bench().put(30, stack).code(Code.call(GO_CALL));
            bench.run(1);
            CHECK.is("halted at " + stack, bench.halted(), 0);
        }
    }

    private static void haltsInUserMode() {
        long[] stacks = {4, 20000};
        for (long stack : stacks) {
            Bench bench = bench().tables().page(0, 3, Bench.OPEN).codeAt(768, Code.call(0));
            bench.user(1, 0, 777).put(33, stack);
            CHECK.is("steps", bench.run(3), 1);
            CHECK.is("halted", bench.halted(), 2);
            CHECK.is("PS", bench.status(), 1);
            CHECK.is("USP", bench.r(34), 777);
            CHECK.is("R30", bench.r(30), stack);
            CHECK.is("KSP", bench.r(33), stack);
            CHECK.is("R16", bench.r(16), -16);
            CHECK.is("PC", bench.r(32), 4);
            CHECK.is("entries", bench.entries(), 0);
        }
    }

    // Two longs end page 0, and page 1 can't be written.
    private static void storesBeforeAFaultStay() {
        Bench bench = bench().tables().page(0, 3, Bench.OPEN).page(1, 4, Bench.VALID | Bench.KERNEL_READ);
        bench.put(30, 256 + 32).code(Code.call(GO_CALL));
        bench.run(1);
        CHECK.is("halted", bench.halted(), 2);
        CHECK.is("the first", bench.machine.word(768 + 240), 7);
        CHECK.is("the second", bench.machine.word(768 + 248), Bench.CODE + 4);
        CHECK.is("the third", bench.machine.word(1024), 0);
        CHECK.is("R30", bench.r(30), 288);
    }

    private static void storesThroughThePages() {
        Bench bench = bench().tables().page(0, 3, Bench.OPEN).page(1, 6, Bench.VALID | Bench.KERNEL_WRITE);
        bench.put(30, 256 + 32).code(Code.call(GO_CALL));
        bench.run(1);
        CHECK.is("halted", bench.halted(), 0);
        CHECK.is("PS", bench.machine.word(768 + 240), 7);
        CHECK.is("PC", bench.machine.word(768 + 248), Bench.CODE + 4);
        CHECK.is("R29", bench.machine.word(1536), -29);
        CHECK.is("R16", bench.machine.word(1544), -16);
        CHECK.is("R17", bench.machine.word(1552), -17);
        CHECK.is("R18", bench.machine.word(1560), -18);
        CHECK.is("R30", bench.r(30), 240);
    }

    private static void storesComeIntoTheBuffer() {
        Bench bench = bench().tables().page(0, 3, Bench.OPEN).page(1, 6, Bench.OPEN);
        bench.put(30, 256 + 32).code(Code.call(GO_CALL)).run(1);
        CHECK.is("two pages", bench.buffered(), 2);
        Bench odd = bench().tables().page(0, 3, Bench.OPEN).put(30, 100).code(Code.call(GO_CALL));
        odd.run(1);
        CHECK.is("halted", odd.halted(), 2);
        CHECK.is("nothing is stored from an odd stack", odd.buffered(), 0);
    }

    // PS is stored over the first descriptor on the way to the last four longs.
    private static void storesMayChangeTheTables() {
        Bench valid = stackOverItsTable();
        valid.run(1);
        CHECK.is("halted", valid.halted(), 0);
        CHECK.is("PS", valid.machine.word(3056), 7);
        CHECK.is("R29, by the table that PS names", valid.machine.word(1536), -29);
        CHECK.is("not by the table of before", valid.machine.word(1280), 0);
        Bench invalid = stackOverItsTable().level(6);
        invalid.run(1);
        CHECK.is("PS 6 is not valid", invalid.halted(), 2);
        CHECK.is("PS", invalid.machine.word(3056), 6);
    }

    private static Bench stackOverItsTable() {
        int table = 3040;
        Bench bench = bench().tables().page(3, 11, Bench.OPEN).page(0, 5, Bench.OPEN).space(table, 0);
        bench.set(table + 8, Bench.descriptor(Bench.SECOND, Bench.VALID));
        bench.set(table + 16, Bench.descriptor(Bench.SECOND, Bench.VALID));
        bench.set(0, Bench.descriptor(12, Bench.VALID)).set(3072, Bench.descriptor(6, Bench.OPEN));
        return bench.put(30, 0x2000 + 32).code(Code.call(GO_CALL));
    }
}
