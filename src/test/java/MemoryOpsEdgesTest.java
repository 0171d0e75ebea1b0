/** The boundary cases of the MEMORY OPS: alignment, faults, the lock, the lower three bits. */
public final class MemoryOpsEdgesTest {
    private static final int DATA = 1024;
    private static final long WORD = 0x8899AABBCCDDEEFFL;
    private static final int[] LOADS = {0x28, 0x29, 0x2A, 0x2B};
    private static final int[] STORES = {0x2C, 0x2D, 0x2E, 0x2F};

    public static void main(String[] args) {
        Sentences document = new Sentences();
        document.holds("V = register B + D.", MemoryOpsEdgesTest::addressWraps);
        document.holds("08 register A becomes V, 09 register B + 65536 * D.", MemoryOpsEdgesTest::addressesAlone);
        document.holds("28h, 29h: it becomes 4 bytes at V with sign, 8 bytes", MemoryOpsEdgesTest::loadsWithSign);
        document.holds("2Ah, 2Bh likewise, and the lock is on.", MemoryOpsEdgesTest::loadsWithLock);
        document.holds("2Ch, 2Dh: X goes to 4, 8 bytes at V.", MemoryOpsEdgesTest::storesAtTheEdges);
        document.holds("2Eh, 2Fh: likewise, if the lock is on, and A becomes 1", MemoryOpsEdgesTest::storesWithLock);
        document.holds("or (nothing is stored) 0", MemoryOpsEdgesTest::storesWithoutLock);
        document.holds("the lock is off", MemoryOpsEdgesTest::secondStoreHasNoLock);
        document.holds("0Bh, 0Fh: as 29h, 2Dh, the lower three bits of V count as 0.", MemoryOpsEdgesTest::lowerBits);
        document.holds("If V can't be divided by 4", MemoryOpsEdgesTest::notDivisibleByFour);
        document.holds("or 8", MemoryOpsEdgesTest::notDivisibleByEight);
        document.holds("ENTRY 4 with V, OP, A.", MemoryOpsEdgesTest::entryFour);
        document.holds("A fault of (TRANSLATION) READ or WRITE: ENTRY 2", MemoryOpsEdgesTest::faults);
        document.holds("then nothing else is done", MemoryOpsEdgesTest::faultChangesNothingElse);
        document.holds("(2Eh, 2Fh with the lock off: no translation.)", MemoryOpsEdgesTest::noTranslation);
        document.end();
    }

    private static Bench bench(int... codes) {
        return new Bench().set(DATA, WORD).set(DATA + 8, 5).put(1, Bench.DIRECT + DATA).put(2, 22).code(codes);
    }

    private static String name(int op) {
        return Integer.toHexString(op) + "h";
    }

    private static void addressWraps(Check check) {
        Bench below = new Bench().tables().page(0, 4, Bench.OPEN).set(DATA, WORD).put(1, -32760);
        below.code(Code.memory(0x29, 2, 1, 32760)).run(1);
        check.is("from below 0 to 0", below.r(2), WORD);
        Bench above = bench(Code.memory(0x29, 2, 1, -32768)).put(1, Bench.DIRECT + DATA + 32768);
        above.run(1);
        check.is("D is below 0", above.r(2), WORD);
        Bench far = new Bench().vector(2, 400).put(1, Long.MAX_VALUE - 7).code(Code.memory(0x29, 2, 1, 8));
        far.run(1);
        check.is("from the highest to the lowest", far.r(16), Long.MIN_VALUE);
        Bench wide = new Bench().vector(2, 400).put(1, 0x100000000L + Bench.DIRECT).code(Code.memory(0x29, 2, 1, 0));
        wide.run(1);
        check.is("all 64 bits of V count", wide.r(17), 1);
    }

    // No place need be at such an address, and it need not be divisible by anything.
    private static void addressesAlone(Check check) {
        long[] bases = {0, 1, -1, 16383, 40001, Long.MIN_VALUE, Long.MAX_VALUE};
        for (long base : bases) {
            for (int d : new int[] {-32768, -1, 0, 1, 32767}) {
                Bench bench = new Bench().put(1, base).code(Code.memory(0x08, 2, 1, d), Code.memory(0x09, 3, 1, d));
                bench.run(2);
                check.is("08 of " + base + ", " + d, bench.r(2), base + d);
                check.is("09 of " + base + ", " + d, bench.r(3), base + 65536L * d);
                check.is("entries", bench.entries(), 0);
            }
        }
    }

    private static void loadsWithSign(Check check) {
        long[] words = {0x7FFFFFFF80000000L, 0x80000000_7FFFFFFFL, 0x00000000FFFFFFFFL, -1, 0};
        long[] lower = {-0x80000000L, 0x7FFFFFFF, -1, -1, 0};
        long[] upper = {0x7FFFFFFF, -0x80000000L, 0, -1, 0};
        for (int i = 0; i < words.length; i++) {
            Bench bench = bench(Code.memory(0x28, 2, 1, 0), Code.memory(0x28, 3, 1, 4), Code.memory(0x29, 4, 1, 0));
            bench.set(DATA, words[i]).run(3);
            check.is("lower half", bench.r(2), lower[i]);
            check.is("upper half", bench.r(3), upper[i]);
            check.is("whole", bench.r(4), words[i]);
            check.is("the lock", bench.locked(), false);
        }
        Bench edges = new Bench().set(0, 11).set(4088, 22L << 32 | 33).put(1, Bench.DIRECT).put(2, Bench.DIRECT + 4088);
        edges.code(Code.memory(0x28, 3, 1, 0), Code.memory(0x28, 4, 2, 4), Code.memory(0x29, 5, 2, 0)).run(3);
        check.is("the first half of the memory", edges.r(3), 11);
        check.is("the last half of the memory", edges.r(4), 22);
        check.is("the last word of the memory", edges.r(5), 22L << 32 | 33);
    }

    private static void loadsWithLock(Check check) {
        long[] due = {0xFFFFFFFFCCDDEEFFL, WORD};
        for (int op = 0x2A; op <= 0x2B; op++) {
            Bench bench = bench(Code.memory(op, 2, 1, 0), Code.memory(op, 3, 1, 0), Code.memory(0x29, 3, 1, 0),
                    Code.memory(0x2D, 3, 1, 8), Code.NOTHING);
            bench.run(1);
            check.is(name(op), bench.r(2), due[op - 0x2A]);
            check.isTrue("the lock is on", bench.locked());
            bench.run(4);
            check.isTrue("and stays on", bench.locked());
            Bench zero = bench(Code.memory(op, 31, 1, 0));
            zero.run(1);
            check.isTrue("with R31 as A, too", zero.locked());
        }
    }

    private static void storesAtTheEdges(Check check) {
        Bench bench = new Bench().put(1, Bench.DIRECT).put(2, Bench.DIRECT + 4088).put(3, WORD);
        bench.set(0, -1).set(8, -1).set(4080, -1).set(4088, -1);
        bench.code(Code.memory(0x2C, 3, 1, 4), Code.memory(0x2C, 3, 2, 0), Code.memory(0x2D, 3, 1, 8)).run(3);
        check.is("the upper half alone", bench.machine.word(0), 0xCCDDEEFFFFFFFFFFL);
        check.is("the lower half alone", bench.machine.word(4088), 0xFFFFFFFFCCDDEEFFL);
        check.is("the word before is as it was", bench.machine.word(4080), -1);
        check.is("whole", bench.machine.word(8), WORD);
        check.is("the word behind is as it was", bench.machine.word(16), 0);
        check.is("X", bench.r(3), WORD);
    }

    private static void storesWithLock(Check check) {
        long[] due = {0x8899AABB00000016L, 22};
        for (int op = 0x2E; op <= 0x2F; op++) {
            Bench bench = bench(Code.memory(0x2A, 3, 1, 8), Code.memory(op, 2, 1, 0));
            bench.run(2);
            check.is(name(op), bench.machine.word(DATA), due[op - 0x2E]);
            check.is("A", bench.r(2), 1);
            check.is("the lock", bench.locked(), false);
            Bench same = bench(Code.memory(0x2A, 3, 1, 8), Code.memory(op, 1, 1, 0)).set(DATA, 0);
            same.run(2);
            check.is("X as it was goes there", same.machine.word(DATA), Bench.DIRECT + DATA);
            check.is("A is B", same.r(1), 1);
        }
    }

    private static void storesWithoutLock(Check check) {
        for (int op = 0x2E; op <= 0x2F; op++) {
            Bench bench = bench(Code.memory(op, 2, 1, 0));
            bench.run(1);
            check.is(name(op), bench.machine.word(DATA), WORD);
            check.is("A", bench.r(2), 0);
            check.is("PC", bench.r(32), Bench.CODE + 4);
            check.is("entries", bench.entries(), 0);
        }
    }

    private static void secondStoreHasNoLock(Check check) {
        for (int op = 0x2E; op <= 0x2F; op++) {
            Bench bench = bench(Code.memory(0x2B, 3, 1, 0), Code.memory(op, 2, 1, 0), Code.memory(op, 4, 1, 8));
            bench.put(4, 44).run(3);
            check.is("the first A", bench.r(2), 1);
            check.is("the second A", bench.r(4), 0);
            check.is("the second stores nothing", bench.machine.word(DATA + 8), 5);
        }
    }

    private static void lowerBits(Check check) {
        for (int low = 0; low < 8; low++) {
            Bench bench = bench(Code.memory(0x0B, 3, 1, low), Code.memory(0x0F, 2, 1, 8 + low));
            bench.run(2);
            check.is("0Bh, lower bits " + low, bench.r(3), WORD);
            check.is("0Fh, lower bits " + low, bench.machine.word(DATA + 8), 22);
            check.is("entries", bench.entries(), 0);
            check.is("the lock", bench.locked(), false);
            Bench last = new Bench().set(4088, WORD).put(1, Bench.DIRECT + 4088 + low);
            last.code(Code.memory(0x0B, 2, 1, 0), Code.memory(0x0F, 31, 1, 0)).run(2);
            check.is("0Bh in the last word", last.r(2), WORD);
            check.is("0Fh in the last word", last.machine.word(4088), 0);
            Bench fault = new Bench().vector(2, 400).put(1, 16384 + low).code(Code.memory(0x0B, 2, 1, 0));
            fault.run(1);
            check.is("V of a fault", fault.r(16), 16384);
        }
    }

    // Enters for a V that is so many bytes behind one that can be divided by 8.
    private static void misaligned(Check check, int op, int divisor) {
        long[] bases = {Bench.DIRECT + DATA, -8, Long.MIN_VALUE, 0, 16384};
        for (long base : bases) {
            for (int low = 0; low < 8; low++) {
                Bench bench = bench(Code.memory(op, 2, 1, low)).vector(4, 800).vector(2, 400).put(1, base);
                bench.run(1);
                check.is(name(op) + " at " + base + " + " + low, bench.r(32) == 800, low % divisor != 0);
            }
        }
    }

    private static void notDivisibleByFour(Check check) {
        for (int op = 0x28; op <= 0x2E; op += 2) {
            misaligned(check, op, 4);
        }
    }

    private static void notDivisibleByEight(Check check) {
        for (int op = 0x29; op <= 0x2F; op += 2) {
            misaligned(check, op, 8);
        }
    }

    private static void entryFour(Check check) {
        for (int op = 0x28; op <= 0x2F; op++) {
            for (int a = 0; a < 32; a += 31) {
                Bench bench = bench(Code.memory(op, a, 1, -1)).vector(4, 800).put(0, 99);
                bench.run(1);
                check.is(name(op) + ", PC", bench.r(32), 800);
                check.is("V", bench.r(16), Bench.DIRECT + DATA - 1);
                check.is("OP", bench.r(17), op);
                check.is("A", bench.r(18), a);
                check.is("register A", bench.r(0), 99);
                check.is("the address of the instruction", bench.machine.word(4056), Bench.CODE);
                check.is("the word before", bench.machine.word(DATA - 8), 0);
                check.is("the word", bench.machine.word(DATA), WORD);
            }
        }
    }

    private static void faults(Check check) {
        for (int op = 0x28; op <= 0x2D; op++) {
            Bench bench = bench(Code.memory(op, 2, 1, 0)).vector(2, 400).put(1, -8);
            faultIs(check, bench, 1, op < 0x2C ? 0 : 1);
        }
        for (int op = 0x2E; op <= 0x2F; op++) {
            Bench bench = bench(Code.memory(op, 2, 31, -8)).vector(2, 400);
            bench.codeAt(252, Code.memory(0x2B, 3, 1, 0)).put(32, Bench.CODE - 4).run(1);
            faultIs(check, bench, 1, 1);
        }
        faultIs(check, bench(Code.memory(0x0B, 2, 31, -8)).vector(2, 400), 1, 0);
        faultIs(check, bench(Code.memory(0x0F, 2, 31, -8)).vector(2, 400), 1, 1);
    }

    private static void faultIs(Check check, Bench bench, int fault, int access) {
        bench.run(1);
        check.is("PC", bench.r(32), 400);
        check.is("V", bench.r(16), -8);
        check.is("the fault", bench.r(17), fault);
        check.is("READ or WRITE", bench.r(18), access);
        check.is("the address of the instruction", bench.machine.word(4056), Bench.CODE);
    }

    // The entry halts the machine, so that it can't hide what the instruction did.
    private static void faultChangesNothingElse(Check check) {
        for (int op : LOADS) {
            Bench bench = bench(Code.memory(op, 2, 31, 16384)).put(30, 0);
            bench.run(1);
            check.is(name(op) + ", halted", bench.halted(), 2);
            check.is("A", bench.r(2), 22);
            check.is("the lock", bench.locked(), false);
        }
        for (int op : STORES) {
            Bench bench = bench(Code.memory(0x2B, 3, 1, 0), Code.memory(op, 2, 31, 16384)).put(30, 0);
            bench.run(2);
            check.is(name(op) + ", halted", bench.halted(), 2);
            check.is("A", bench.r(2), 22);
            check.isTrue("the lock", bench.locked());
            check.is("memory", bench.machine.word(DATA), WORD);
        }
    }

    private static void noTranslation(Check check) {
        long[] places = {-8, 16384, 40000, 65536, Long.MIN_VALUE, 0};
        for (int op = 0x2E; op <= 0x2F; op++) {
            for (long v : places) {
                Bench bench = bench(Code.memory(op, 2, 1, 0)).put(1, v);
                bench.run(1);
                check.is("no fault at " + v, bench.entries(), 0);
                check.is("A", bench.r(2), 0);
            }
            Bench mapped = new Bench().tables().page(0, 4, Bench.OPEN).code(Code.memory(op, 2, 31, 0));
            mapped.run(1);
            check.is("nothing comes into the buffer", mapped.buffered(), 0);
            Bench odd = bench(Code.memory(op, 2, 1, 2)).vector(4, 800);
            odd.run(1);
            check.is("but V must be divisible", odd.r(32), 800);
            check.is("A", odd.r(2), 22);
        }
    }
}
