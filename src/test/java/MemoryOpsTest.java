/** Promise 5, the memory ops: addresses, loads, stores, the lock, what is not aligned, faults. */
public final class MemoryOpsTest {
    private static final Check CHECK = new Check();
    private static final int DATA = 1024;
    private static final long WORD = 0x8899AABBCCDDEEFFL;
    private static final int[] WHOLE = {0x29, 0x2B, 0x2D, 0x2F};
    private static final int[] HALF = {0x28, 0x2A, 0x2C, 0x2E};

    public static void main(String[] args) {
        addresses();
        loads();
        loadsWithLock();
        stores();
        storesWithLock();
        storesWithoutLock();
        lowerBitsThatDoNotCount();
        misaligned();
        faults();
        faultLeavesAllAsItWas();
        theSameRegister();
        edgesOfTheMemory();
        CHECK.end();
    }

    private static Bench bench(int... codes) {
        return new Bench().set(DATA, WORD).set(DATA + 8, 5).put(1, Bench.DIRECT + DATA).code(codes);
    }

    private static void addresses() {
        Bench bench = new Bench().put(1, 100).put(2, Long.MAX_VALUE);
        bench.code(Code.memory(0x08, 3, 1, 32767), Code.memory(0x08, 4, 1, -32768),
                Code.memory(0x09, 5, 1, 32767), Code.memory(0x09, 6, 1, -32768),
                Code.memory(0x08, 7, 2, 1), Code.memory(0x09, 8, 2, 1), Code.memory(0x08, 31, 1, 1),
                Code.memory(0x08, 9, 31, -1), Code.memory(0x08, 1, 1, 1));
        CHECK.is("steps", bench.run(9), 9);
        CHECK.is("08, highest", bench.r(3), 100 + 32767);
        CHECK.is("08, lowest", bench.r(4), 100 - 32768);
        CHECK.is("09, highest", bench.r(5), 100 + 32767L * 65536);
        CHECK.is("09, lowest", bench.r(6), 100 - 32768L * 65536);
        CHECK.is("08 wraps", bench.r(7), Long.MIN_VALUE);
        CHECK.is("09 wraps", bench.r(8), Long.MAX_VALUE + 65536);
        CHECK.is("R31", bench.r(31), 0);
        CHECK.is("from R31", bench.r(9), -1);
        CHECK.is("the same register", bench.r(1), 101);
        CHECK.is("no entry", bench.entries(), 0);
    }

    private static void loads() {
        Bench bench = bench(Code.memory(0x28, 2, 1, 0), Code.memory(0x28, 3, 1, 4),
                Code.memory(0x29, 4, 1, 0), Code.memory(0x28, 5, 1, 8), Code.memory(0x29, 31, 1, 0),
                Code.memory(0x29, 1, 1, 8));
        bench.run(6);
        CHECK.is("lower half", bench.r(2), 0xFFFFFFFFCCDDEEFFL);
        CHECK.is("upper half", bench.r(3), 0xFFFFFFFF8899AABBL);
        CHECK.is("whole", bench.r(4), WORD);
        CHECK.is("half above 0", bench.r(5), 5);
        CHECK.is("R31", bench.r(31), 0);
        CHECK.is("A is B", bench.r(1), 5);
        CHECK.is("the lock", bench.locked(), false);
        CHECK.is("memory", bench.machine.word(DATA), WORD);
    }

    private static void loadsWithLock() {
        for (int op : new int[] {0x2A, 0x2B}) {
            Bench bench = bench(Code.memory(op, 2, 1, 0), Code.memory(0x29, 3, 1, 0),
                    Code.memory(0x2D, 3, 1, 0), Code.NOTHING);
            bench.run(1);
            CHECK.is("loaded", bench.r(2), op == 0x2A ? 0xFFFFFFFFCCDDEEFFL : WORD);
            CHECK.isTrue("the lock", bench.locked());
            bench.run(3);
            CHECK.isTrue("others leave the lock on", bench.locked());
        }
        Bench upper = bench(Code.memory(0x2A, 2, 1, 4));
        upper.run(1);
        CHECK.is("upper half", upper.r(2), 0xFFFFFFFF8899AABBL);
    }

    private static void stores() {
        Bench bench = bench(Code.memory(0x2C, 2, 1, 0), Code.memory(0x2C, 3, 1, 12),
                Code.memory(0x2D, 2, 1, 16), Code.memory(0x2D, 31, 1, 24), Code.memory(0x2C, 31, 1, 36));
        bench.put(2, 0x123456789ABCDEFL).put(3, -2).set(DATA + 24, 1).set(DATA + 32, -1);
        bench.run(5);
        CHECK.is("lower half", bench.machine.word(DATA), 0x8899AABB89ABCDEFL);
        CHECK.is("upper half", bench.machine.word(DATA + 8), 0xFFFFFFFE00000005L);
        CHECK.is("whole", bench.machine.word(DATA + 16), 0x123456789ABCDEFL);
        CHECK.is("R31", bench.machine.word(DATA + 24), 0);
        CHECK.is("half of R31", bench.machine.word(DATA + 32), 0xFFFFFFFFL);
        CHECK.is("the register", bench.r(2), 0x123456789ABCDEFL);
        CHECK.is("the lock", bench.locked(), false);
    }

    private static void storesWithLock() {
        Bench bench = bench(Code.memory(0x2B, 4, 1, 0), Code.memory(0x2E, 2, 1, 4),
                Code.memory(0x2A, 4, 1, 0), Code.memory(0x2F, 3, 1, 8),
                Code.memory(0x2A, 4, 1, 0), Code.memory(0x2F, 31, 1, 16));
        bench.put(2, 0x1122334455667788L).put(3, -3).set(DATA + 16, 9);
        bench.run(2);
        CHECK.is("2Eh stores a half", bench.machine.word(DATA), 0x55667788CCDDEEFFL);
        CHECK.is("A", bench.r(2), 1);
        CHECK.is("the lock", bench.locked(), false);
        bench.run(2);
        CHECK.is("2Fh stores it whole", bench.machine.word(DATA + 8), -3);
        CHECK.is("A", bench.r(3), 1);
        CHECK.is("the lock", bench.locked(), false);
        bench.run(2);
        CHECK.is("R31 is stored", bench.machine.word(DATA + 16), 0);
        CHECK.is("R31", bench.r(31), 0);
    }

    private static void storesWithoutLock() {
        for (int op : new int[] {0x2E, 0x2F}) {
            Bench bench = bench(Code.memory(op, 2, 1, 0)).put(2, 77);
            bench.run(1);
            CHECK.is("nothing is stored", bench.machine.word(DATA), WORD);
            CHECK.is("A", bench.r(2), 0);
            CHECK.is("no entry", bench.entries(), 0);

            Bench unmapped = new Bench().put(1, -8).put(2, 77).code(Code.memory(op, 2, 1, 0));
            unmapped.run(1);
            CHECK.is("no translation", unmapped.entries(), 0);
            CHECK.is("A", unmapped.r(2), 0);

            Bench mapped = new Bench().tables().page(0, 1, Bench.OPEN).put(2, 77);
            mapped.code(Code.memory(op, 2, 31, 0)).run(1);
            CHECK.is("nothing comes into the buffer", mapped.buffered(), 0);

            Bench odd = new Bench().put(1, Bench.DIRECT + 2).put(2, 77).code(Code.memory(op, 2, 1, 0));
            odd.run(1);
            CHECK.is("what is not aligned enters", odd.entries(), 1);
            CHECK.is("A stays", odd.r(2), 77);
        }
    }

    private static void lowerBitsThatDoNotCount() {
        for (int i = 0; i < 8; i++) {
            Bench bench = bench(Code.memory(0x0B, 2, 1, i), Code.memory(0x0F, 3, 1, 8 + i)).put(3, -30 - i);
            bench.run(2);
            CHECK.is("0Bh with " + i, bench.r(2), WORD);
            CHECK.is("0Fh with " + i, bench.machine.word(DATA + 8), -30 - i);
            CHECK.is("0Fh, the next word", bench.machine.word(DATA + 16), 0);
            CHECK.is("no entry", bench.entries(), 0);
        }
        for (int op : new int[] {0x0B, 0x0F}) {
            Bench bench = new Bench().vector(2, 400).put(1, 20000 + 7).code(Code.memory(op, 2, 1, 0));
            bench.run(1);
            CHECK.is("the fault's V", bench.r(16), 20000);
            CHECK.is("the fault", bench.r(17), 1);
            CHECK.is("READ or WRITE", bench.r(18), op == 0x0B ? 0 : 1);
        }
        Bench locked = bench(Code.memory(0x2B, 2, 1, 0), Code.memory(0x0B, 2, 1, 0), Code.memory(0x0F, 2, 1, 0));
        locked.run(3);
        CHECK.isTrue("the lock stays on", locked.locked());
        Bench open = bench(Code.memory(0x0B, 2, 1, 0));
        open.run(1);
        CHECK.is("the lock stays off", open.locked(), false);
    }

    private static void misaligned() {
        for (int i = 0; i < 8; i++) {
            for (int op : WHOLE) {
                misaligned(op, i, i != 0);
            }
            for (int op : HALF) {
                misaligned(op, i, i % 4 != 0);
            }
        }
        Bench far = new Bench().vector(4, 800).vector(2, 900).put(1, -3).code(Code.memory(0x29, 2, 1, 0));
        far.run(1);
        CHECK.is("before any translation", far.r(32), 800);
        CHECK.is("V", far.r(16), -3);
        Bench mapped = new Bench().tables().page(0, 1, Bench.OPEN).code(Code.memory(0x29, 2, 31, 4));
        mapped.run(1);
        CHECK.is("nothing comes into the buffer", mapped.buffered(), 0);
    }

    private static void misaligned(int op, int i, boolean enters) {
        Bench bench = bench(Code.memory(op, 5, 1, i)).vector(4, 800).put(5, 55);
        bench.run(1);
        String name = Integer.toHexString(op) + " with " + i;
        CHECK.is(name + ", entries", bench.entries(), enters ? 1 : 0);
        if (enters) {
            CHECK.is(name + ", PC", bench.r(32), 800);
            CHECK.is(name + ", PC as it was", bench.machine.word(4056), Bench.CODE);
            CHECK.is(name + ", V", bench.r(16), Bench.DIRECT + DATA + i);
            CHECK.is(name + ", OP", bench.r(17), op);
            CHECK.is(name + ", A", bench.r(18), 5);
            CHECK.is(name + ", register A", bench.r(5), 55);
            CHECK.is(name + ", memory", bench.machine.word(DATA), WORD);
            CHECK.is(name + ", memory", bench.machine.word(DATA + 8), 5);
        }
    }

    private static void faults() {
        int[] ops = {0x28, 0x29, 0x2A, 0x2B, 0x0B, 0x2C, 0x2D, 0x0F};
        for (int i = 0; i < ops.length; i++) {
            Bench bench = new Bench().vector(2, 900).put(1, 16384).put(2, 22);
            bench.code(Code.memory(ops[i], 2, 1, 8)).run(1);
            String name = Integer.toHexString(ops[i]);
            CHECK.is(name + ", PC", bench.r(32), 900);
            CHECK.is(name + ", PC as it was", bench.machine.word(4056), Bench.CODE);
            CHECK.is(name + ", V", bench.r(16), 16392);
            CHECK.is(name + ", the fault", bench.r(17), 1);
            CHECK.is(name + ", READ or WRITE", bench.r(18), i < 5 ? 0 : 1);
            CHECK.is(name + ", register A", bench.r(2), 22);
            CHECK.is(name + ", the lock", bench.locked(), false);
        }
        for (int op : new int[] {0x2E, 0x2F}) {
            Bench bench = new Bench().vector(2, 900).put(1, Bench.DIRECT).put(2, 22);
            bench.code(Code.memory(0x2B, 3, 1, 0), Code.memory(op, 2, 31, 16384)).run(2);
            CHECK.is("with the lock, PC", bench.r(32), 900);
            CHECK.is("with the lock, WRITE", bench.r(18), 1);
            CHECK.is("with the lock, register A", bench.r(2), 22);
            CHECK.is("the entry turns the lock off", bench.locked(), false);
        }
    }

    // The entry halts it, so that nothing hides what the instruction left undone.
    private static void faultLeavesAllAsItWas() {
        Bench load = new Bench().put(30, 0).put(2, 22).code(Code.memory(0x2B, 2, 31, 16384));
        load.run(1);
        CHECK.is("halted", load.halted(), 2);
        CHECK.is("the lock stays off", load.locked(), false);
        CHECK.is("A", load.r(2), 22);
        CHECK.is("PC has grown", load.r(32), Bench.CODE + 4);
        Bench store = new Bench().put(30, 0).put(1, Bench.DIRECT).put(2, 22);
        store.code(Code.memory(0x2B, 3, 1, 0), Code.memory(0x2F, 2, 31, 16384)).run(2);
        CHECK.is("halted", store.halted(), 2);
        CHECK.isTrue("the lock stays on", store.locked());
        CHECK.is("A", store.r(2), 22);
    }

    private static void theSameRegister() {
        Bench bench = bench(Code.memory(0x2B, 3, 1, 0), Code.memory(0x2F, 1, 1, 8));
        bench.run(2);
        CHECK.is("X is stored before A becomes 1", bench.machine.word(DATA + 8), Bench.DIRECT + DATA);
        CHECK.is("A", bench.r(1), 1);
    }

    private static void edgesOfTheMemory() {
        Bench bench = new Bench().set(4088, WORD).put(1, Bench.DIRECT).put(2, Bench.DIRECT + 4096);
        bench.code(Code.memory(0x29, 3, 2, -8), Code.memory(0x28, 4, 2, -4), Code.memory(0x2C, 1, 1, 4),
                Code.memory(0x2C, 1, 2, -4));
        bench.run(4);
        CHECK.is("the last word", bench.r(3), WORD);
        CHECK.is("the last half", bench.r(4), 0xFFFFFFFF8899AABBL);
        CHECK.is("stored in the first", bench.machine.word(0), (long) Bench.DIRECT << 32);
        CHECK.is("stored in the last", bench.machine.word(4088), (long) Bench.DIRECT << 32 | 0xCCDDEEFFL);
        CHECK.is("no entry", bench.entries(), 0);
    }
}
