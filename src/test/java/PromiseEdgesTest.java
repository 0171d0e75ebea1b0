/** The boundary cases that the promises 1 to 8 name, and the limit on an object's calls. */
public final class PromiseEdgesTest {
    private static final int MIN = Integer.MIN_VALUE;
    private static final int MAX = Integer.MAX_VALUE;
    private static final int ADD_ONE = Code.memory(0x08, 1, 1, 1);
    private static final int BACK_TO_FIRST = Code.branch(0x30, 31, -2);

    public static void main(String[] args) {
        Sentences document = new Sentences();
        document.holds("An object is used for at most 512 calls", PromiseEdgesTest::call512);
        document.holds("what later calls answer is free", PromiseEdgesTest::laterCalls);
        newObject(document);
        setAndWord(document);
        putAndRegister(document);
        interrupt(document);
        run(document);
        state(document);
        document.end();
    }

    // Both objects have had 511 calls when they are asked for the last time.
    private static void call512(Check check) {
        LongMachine counts = new LongMachine();
        counts.put(32, Bench.CODE);
        counts.set(256, ((long) BACK_TO_FIRST << 32) + ADD_ONE);
        for (int i = 0; i < 509; i++) {
            check.is("run, call " + (i + 3), counts.run(31), 31);
        }
        check.is("R1", counts.register(1), (509 * 31 + 1) / 2);

        LongMachine enters = new LongMachine();
        enters.put(30, Bench.STACK);
        enters.put(32, Bench.CODE);
        enters.put(16, Bench.CODE + 16);
        enters.put(17, 5);
        enters.set(256, 0x83L << 32 | 0x34);
        enters.set(264, BACK_TO_FIRST & 0xFFFFFFFFL);
        enters.set(272, 0x3F);
        enters.run(1);
        for (int i = 0; i < 503; i++) {
            check.is("run, call " + (i + 9), enters.run(31), 31);
        }
        check.is("entries, one in three steps", enters.state(5), (503 * 31 + 2) / 3);
    }

    // They may answer what they like, but none throws, and another object knows nothing of them.
    private static void laterCalls(Check check) {
        LongMachine machine = new LongMachine();
        machine.put(30, Bench.STACK);
        machine.put(32, Bench.CODE);
        for (int i = 0; i < 5000; i++) {
            machine.interrupt(i % 9, i % 257);
            machine.set(8 * i, i);
            machine.put(i % 40, i);
            machine.run(i % 33);
            machine.register(i % 50);
            machine.word(8 * i);
            machine.state(i % 8);
        }
        check.is("a new object's first call", new LongMachine().state(0), 7);
    }

    private static void newObject(Sentences document) {
        document.holds("All is 0", PromiseEdgesTest::allIsZero);
        document.holds("the level 7", PromiseEdgesTest::theLevelIsSeven);
        document.holds("the buffer empty", PromiseEdgesTest::theBufferIsEmpty);
        document.holds("the machine is not halted", PromiseEdgesTest::itIsNotHalted);
    }

    private static void allIsZero(Check check) {
        LongMachine machine = new LongMachine();
        for (int r = 0; r <= 45; r++) {
            check.is("register " + r, machine.register(r), r == 39 ? -1 : 0);
        }
        for (int what = 1; what <= 5; what++) {
            check.is("state " + what, machine.state(what), 0);
        }
        LongMachine full = new LongMachine();
        for (int address = 0; address < 4096; address += 8) {
            check.is("word " + address, full.word(address), 0);
        }
    }

    private static void theLevelIsSeven(Check check) {
        Bench bench = new Bench().code(Code.NOTHING);
        check.is("PS", bench.status(), 7);
        bench.machine.interrupt(7, 1);
        bench.run(1);
        check.is("level 7 is not above it", bench.pending(), 1);
    }

    // Page 0 in space 0 is what an empty place of the buffer might be taken for.
    private static void theBufferIsEmpty(Check check) {
        Bench bench = new Bench().set(0, Bench.descriptor(9, Bench.VALID));
        check.is("descriptors", bench.buffered(), 0);
        bench.set(2304, Bench.descriptor(10, Bench.VALID)).set(2560, Bench.descriptor(4, Bench.OPEN));
        bench.set(1024, 77).code(Code.memory(0x29, 2, 31, 0)).run(1);
        check.is("found by a walk", bench.r(2), 77);
        check.is("descriptors", bench.buffered(), 1);
    }

    private static void itIsNotHalted(Check check) {
        LongMachine machine = new LongMachine();
        check.is("how it is halted", machine.state(2), 0);
        machine.put(32, Bench.CODE);
        machine.set(256, Code.NOTHING & 0xFFFFFFFFL);
        check.is("steps", machine.run(1), 1);
    }

    private static void setAndWord(Sentences document) {
        document.holds("The 8 bytes at address (a number divisible by 8, 0 .. 4088) become v.",
                PromiseEdgesTest::firstAndLastWord);
        document.holds("False for another address.", PromiseEdgesTest::setRefuses);
        document.holds("The 8 bytes at address (as for set)", PromiseEdgesTest::wordsAsTheyWereSet);
        document.holds("-1 for another address.", PromiseEdgesTest::wordRefuses);
    }

    private static void firstAndLastWord(Check check) {
        LongMachine machine = new LongMachine();
        check.isTrue("set 0", machine.set(0, Long.MIN_VALUE));
        check.isTrue("set 4088", machine.set(4088, Long.MAX_VALUE));
        check.is("word 0", machine.word(0), Long.MIN_VALUE);
        check.is("word 8", machine.word(8), 0);
        check.is("word 4080", machine.word(4080), 0);
        check.is("word 4088", machine.word(4088), Long.MAX_VALUE);
        check.isTrue("set 0 anew", machine.set(0, 1));
        check.is("all 8 bytes are new", machine.word(0), 1);
    }

    private static final int[] NO_WORD = {
        -1, -4, -8, -4096, 1, 2, 3, 4, 5, 6, 7, 4081, 4084, 4087, 4089, 4092, 4095, 4096, 4097, 4104, 8192,
        32768, 65536, MAX, MAX - 7, MIN, MIN + 8
    };

    private static void setRefuses(Check check) {
        for (int address : NO_WORD) {
            Bench bench = new Bench();
            String before = bench.seen();
            check.is("set " + address, bench.machine.set(address, 5), false);
            check.isTrue("set " + address + " changes nothing", bench.seen().equals(before));
        }
    }

    private static void wordsAsTheyWereSet(Check check) {
        LongMachine machine = new LongMachine();
        for (int address = 0; address < 4096; address += 24) {
            machine.set(address, ~(long) address);
        }
        for (int address = 0; address < 4096; address += 24) {
            check.is("word " + address, machine.word(address), ~(long) address);
        }
    }

    private static void wordRefuses(Check check) {
        LongMachine machine = new LongMachine();
        for (int address : NO_WORD) {
            check.is("word " + address, machine.word(address), -1);
        }
    }

    private static void putAndRegister(Sentences document) {
        document.holds("Register r becomes v", PromiseEdgesTest::firstAndLastRegister);
        document.holds("(R31 stays 0)", PromiseEdgesTest::putOfR31);
        document.holds("PC, without its lower two bits, for r = 32", PromiseEdgesTest::putOfPc);
        document.holds("KSP for 33", PromiseEdgesTest::putOfKsp);
        document.holds("False when r is not 0 .. 33.", PromiseEdgesTest::putRefuses);
        document.holds("Register r; 32 PC, 33 KSP, 34 USP, 35 KGP, 36 VALUE, 37 TABLE, 38 SPACE, 40 .. 45 the vectors",
                PromiseEdgesTest::everyRegister);
        document.holds("-1 for another r.", PromiseEdgesTest::registerRefuses);
    }

    private static void firstAndLastRegister(Check check) {
        LongMachine machine = new LongMachine();
        check.isTrue("put 0", machine.put(0, Long.MIN_VALUE));
        check.isTrue("put 30", machine.put(30, Long.MAX_VALUE));
        for (int r = 0; r <= 33; r++) {
            check.is("register " + r, machine.register(r), r == 0 ? Long.MIN_VALUE : r == 30 ? Long.MAX_VALUE : 0);
        }
    }

    private static void putOfR31(Check check) {
        LongMachine machine = new LongMachine();
        check.isTrue("put 31", machine.put(31, -1));
        check.is("register 31", machine.register(31), 0);
        check.is("register 30", machine.register(30), 0);
        check.is("PC", machine.register(32), 0);
    }

    private static void putOfPc(Check check) {
        LongMachine machine = new LongMachine();
        for (int low = 0; low < 4; low++) {
            check.isTrue("put 32", machine.put(32, 4096 + low));
            check.is("PC of 4096 + " + low, machine.register(32), 4096);
            check.isTrue("put 32", machine.put(32, -4 + low));
            check.is("PC of -4 + " + low, machine.register(32), -4);
        }
        machine.put(32, Long.MIN_VALUE);
        check.is("the lowest", machine.register(32), Long.MIN_VALUE);
        machine.put(32, Long.MAX_VALUE);
        check.is("the highest", machine.register(32), Long.MAX_VALUE - 3);
    }

    private static void putOfKsp(Check check) {
        LongMachine machine = new LongMachine();
        check.isTrue("put 33", machine.put(33, 7));
        check.is("KSP with its lower bits", machine.register(33), 7);
        check.is("R30", machine.register(30), 0);
        check.is("USP", machine.register(34), 0);
    }

    private static void putRefuses(Check check) {
        int[] wrong = {-1, -2, -32, 34, 35, 36, 37, 38, 39, 40, 45, 46, 64, 65, 256, MAX, MIN, MIN + 1};
        for (int r : wrong) {
            Bench bench = new Bench();
            String before = bench.seen();
            check.is("put " + r, bench.machine.put(r, 99), false);
            check.isTrue("put " + r + " changes nothing", bench.seen().equals(before));
        }
    }

    private static void everyRegister(Check check) {
        Bench bench = new Bench().call(0x38, 134, 0).call(0x37, 135, 0).call(0x31, 136, 0).call(0x30, 96, 138);
        for (int k = 0; k < 6; k++) {
            bench.call(0x34, 200 + 4 * k, k);
        }
        for (int r = 0; r <= 33; r++) {
            bench.put(r, 1000 + 4 * r);
        }
        for (int r = 0; r <= 33; r++) {
            check.is("register " + r, bench.r(r), r == 31 ? 0 : 1000 + 4 * r);
        }
        long[] due = {134, 135, 136, 96, 138, -1, 200, 204, 208, 212, 216, 220};
        for (int i = 0; i < due.length; i++) {
            check.is("register " + (34 + i), bench.r(34 + i), due[i]);
        }
    }

    private static void registerRefuses(Check check) {
        LongMachine machine = new LongMachine();
        int[] wrong = {-1, -2, -32, 39, 46, 47, 63, 64, 72, 256, MAX, MIN, MIN + 1};
        for (int r : wrong) {
            check.is("register " + r, machine.register(r), -1);
        }
    }

    private static void interrupt(Sentences document) {
        document.holds("An interrupt is pending, with a level 1 .. 7 and a number 0 .. 255.",
                PromiseEdgesTest::lowestAndHighestInterrupt);
        document.holds("False when one is not as said", PromiseEdgesTest::interruptRefuses);
        document.holds("or 4 are pending", PromiseEdgesTest::fourPend);
    }

    private static void lowestAndHighestInterrupt(Check check) {
        int[][] edges = {{1, 0}, {1, 255}, {7, 0}, {7, 255}};
        for (int[] edge : edges) {
            Bench bench = new Bench().level(0).put(16, -1);
            check.isTrue("interrupt", bench.machine.interrupt(edge[0], edge[1]));
            check.is("pending", bench.pending(), 1);
            bench.run(1);
            check.is("its number", bench.r(16), edge[1]);
            check.is("its level", bench.status(), edge[0]);
        }
    }

    private static void interruptRefuses(Check check) {
        int[][] wrong = {
            {0, 5}, {-1, 5}, {8, 5}, {9, 5}, {MIN, 5}, {MAX, 5}, {3, -1}, {3, 256}, {3, MIN}, {3, MAX}, {0, 256}
        };
        for (int[] pair : wrong) {
            Bench bench = new Bench();
            check.is("interrupt " + pair[0] + ", " + pair[1], bench.machine.interrupt(pair[0], pair[1]), false);
            check.is("pending", bench.pending(), 0);
        }
    }

    private static void fourPend(Check check) {
        Bench bench = new Bench().vector(0, Bench.CODE).level(0);
        for (int i = 1; i <= 4; i++) {
            check.isTrue("interrupt " + i, bench.machine.interrupt(2, i));
        }
        check.is("the fifth, above the others", bench.machine.interrupt(7, 5), false);
        check.is("the fifth again", bench.machine.interrupt(2, 6), false);
        check.is("pending", bench.pending(), 4);
        for (int i = 1; i <= 4; i++) {
            bench.run(1);
            check.is("goes out", bench.r(16), i);
            check.is("pending", bench.pending(), 3);
            check.isTrue("room again", bench.machine.interrupt(1, 100 + i));
            bench.level(i == 4 ? 7 : 1);
        }
        check.is("four others", bench.pending(), 4);
        check.is("full again", bench.machine.interrupt(1, 9), false);
    }

    private static void run(Sentences document) {
        document.holds("n steps", PromiseEdgesTest::oneStepAndThirtyOne);
        document.holds("or until the machine is halted: how many were done (that which halted it, too)",
                PromiseEdgesTest::haltedAtEachStep);
        document.holds("0 when n is not 1 .. 31", PromiseEdgesTest::runRefuses);
        document.holds("or it is halted", PromiseEdgesTest::haltedMachineDoesNothing);
    }

    private static void oneStepAndThirtyOne(Check check) {
        Bench bench = new Bench().code(ADD_ONE, BACK_TO_FIRST);
        check.is("run 1", bench.run(1), 1);
        check.is("R1", bench.r(1), 1);
        check.is("PC", bench.r(32), Bench.CODE + 4);
        check.is("run 31", bench.run(31), 31);
        check.is("R1", bench.r(1), 16);
        check.is("PC", bench.r(32), Bench.CODE);
    }

    private static void haltedAtEachStep(Check check) {
        for (int last = 1; last <= 31; last++) {
            Bench bench = new Bench();
            for (int i = 1; i < last; i++) {
                bench.codeAt(256 + 4 * (i - 1), ADD_ONE);
            }
            bench.codeAt(256 + 4 * (last - 1), Code.call(0));
            check.is("run 31, halted by step " + last, bench.run(31), last);
            check.is("R1", bench.r(1), last - 1);
            check.is("halted", bench.halted(), 1);
        }
        Bench entry = new Bench().put(30, 0).code(ADD_ONE, Code.call(0x83), ADD_ONE);
        check.is("an entry that halts", entry.run(31), 2);
        Bench comeBack = new Bench().put(30, 0).code(ADD_ONE, Code.call(0x3F), ADD_ONE);
        check.is("a return that halts", comeBack.run(2), 2);
        Bench fetch = new Bench().put(30, 0).put(32, 16384);
        check.is("a fetch that halts", fetch.run(31), 1);
    }

    private static void runRefuses(Check check) {
        int[] wrong = {0, -1, -31, 32, 33, 63, 257, MAX, MIN, MIN + 1};
        Bench bench = new Bench().level(0).code(ADD_ONE, BACK_TO_FIRST);
        bench.machine.interrupt(1, 1);
        String before = bench.seen();
        for (int n : wrong) {
            check.is("run " + n, bench.run(n), 0);
        }
        check.isTrue("nothing has changed", bench.seen().equals(before));
    }

    private static void haltedMachineDoesNothing(Check check) {
        int[] codes = {Code.call(0), Code.call(0x83), Code.call(0x3F)};
        for (int i = 0; i < 3; i++) {
            Bench bench = new Bench().level(0).put(30, 0).code(codes[i]);
            bench.run(1);
            check.is("halted", bench.halted(), i + 1);
            bench.put(30, Bench.STACK).put(32, Bench.CODE).code(ADD_ONE);
            bench.machine.interrupt(7, 7);
            String before = bench.seen();
            check.is("run 1", bench.run(1), 0);
            check.is("run 31", bench.run(31), 0);
            check.isTrue("nothing has changed", bench.seen().equals(before));
            check.is("how it is halted", bench.halted(), i + 1);
        }
    }

    private static void state(Sentences document) {
        document.holds("0 PS", PromiseEdgesTest::statusOfBothModes);
        document.holds("1 whether the lock is on (1 or 0)", PromiseEdgesTest::lockOnAndOff);
        document.holds("2 how it is halted (0: it is not)", PromiseEdgesTest::haltedInThreeWays);
        document.holds("3 how many descriptors the buffer has", PromiseEdgesTest::emptyAndFullBuffer);
        document.holds("4 how many interrupts are pending", PromiseEdgesTest::noneToFourPending);
        document.holds("5 how many entries there were (that did not halt it)", PromiseEdgesTest::entriesThatCount);
        document.holds("-1 for another what.", PromiseEdgesTest::stateRefuses);
    }

    private static void statusOfBothModes(Check check) {
        for (int level = 0; level < 8; level += 7) {
            Bench bench = new Bench().level(level);
            check.is("KERNEL", bench.machine.state(0), level);
            bench.user(level, 0, 0);
            check.is("USER", bench.machine.state(0), 8 + level);
        }
    }

    private static void lockOnAndOff(Check check) {
        Bench bench = new Bench().put(1, Bench.DIRECT);
        bench.code(Code.memory(0x2A, 2, 1, 0), Code.memory(0x2A, 2, 1, 0), Code.memory(0x2E, 2, 1, 0));
        check.is("off", bench.machine.state(1), 0);
        bench.run(1);
        check.is("on", bench.machine.state(1), 1);
        bench.run(1);
        check.is("on, once more", bench.machine.state(1), 1);
        bench.run(1);
        check.is("off", bench.machine.state(1), 0);
    }

    private static void haltedInThreeWays(Check check) {
        int[] codes = {Code.NOTHING, Code.call(0), Code.call(0x80), Code.call(0x3F)};
        for (int how = 0; how <= 3; how++) {
            Bench bench = new Bench().put(30, 0).code(codes[how]);
            bench.run(1);
            check.is("halted", bench.machine.state(2), how);
        }
    }

    private static void emptyAndFullBuffer(Check check) {
        Bench bench = new Bench().tables();
        for (int page = 0; page < 4; page++) {
            bench.page(page, 4, Bench.OPEN);
        }
        for (int page = 0; page <= 6; page++) {
            check.is("after " + page + " pages", bench.machine.state(3), page < 4 ? page : 4);
            bench.code(Code.memory(0x29, 2, 31, 256 * page)).put(32, Bench.CODE).run(1);
        }
        bench.call(0x33, 0, 0);
        check.is("empty", bench.machine.state(3), 0);
    }

    private static void noneToFourPending(Check check) {
        Bench bench = new Bench().level(0);
        for (int i = 0; i < 4; i++) {
            check.is("pending", bench.machine.state(4), i);
            bench.machine.interrupt(i + 1, 0);
        }
        check.is("four", bench.machine.state(4), 4);
        bench.machine.interrupt(7, 0);
        check.is("a fifth does not count", bench.machine.state(4), 4);
        bench.run(1);
        check.is("one went out", bench.machine.state(4), 3);
    }

    private static void entriesThatCount(Check check) {
        Bench bench = new Bench().vector(5, Bench.CODE).code(Code.call(0x83)).put(30, Bench.DIRECT + 4 * 48);
        check.is("none", bench.machine.state(5), 0);
        check.is("steps", bench.run(4), 4);
        check.is("four", bench.machine.state(5), 4);
        check.is("the step that halts it", bench.run(1), 1);
        check.is("how it is halted", bench.halted(), 2);
        check.is("still four", bench.machine.state(5), 4);
        Bench others = new Bench().set(1024, 7).set(1032, Bench.CODE + 4).put(30, Bench.DIRECT + 1024);
        others.code(Code.call(0x3F), Code.call(0)).run(2);
        check.is("a return and a halt are none", others.machine.state(5), 0);
    }

    private static void stateRefuses(Check check) {
        LongMachine machine = new LongMachine();
        int[] wrong = {-1, -2, -8, 6, 7, 8, 13, 32, 256, MAX, MIN, MIN + 1};
        for (int what : wrong) {
            check.is("state " + what, machine.state(what), -1);
        }
    }
}
