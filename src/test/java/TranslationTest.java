/** Promise 5, TRANSLATION: ranges, the walk, the buffer, the faults and their order. */
public final class TranslationTest {
    private static final Check CHECK = new Check();
    private static final int READ = 0;
    private static final int WRITE = 1;
    private static final int EXECUTE = -1;
    private static final int NO_FAULT = -1;

    public static void main(String[] args) {
        ranges();
        userFindsNothingDirect();
        everyDescriptor();
        indices();
        invalidTables();
        tableIsMasked();
        placesInAPage();
        bufferKeepsDescriptors();
        bufferIsFirstInFirstOut();
        bufferBeginsAnew();
        bufferKnowsSpaces();
        bufferTakesValidOnesAlone();
        fetchesComeIntoTheBuffer();
        fetchFaults();
        CHECK.end();
    }

    /** One access at V; what it found goes into R2, and vector 2 leads to 900. */
    private static Bench access(Bench bench, int access, long v) {
        bench.put(1, v).put(2, 0x5A5A).put(16, -1).put(17, -1).put(18, -1);
        if (access == EXECUTE) {
            bench.put(32, v);
        } else {
            bench.code(Code.memory(access == READ ? 0x29 : 0x2D, 2, 1, 0)).put(32, Bench.CODE);
        }
        bench.run(1);
        return bench;
    }

    private static void faultIs(String name, Bench bench, int access, long v, int fault) {
        boolean faults = bench.r(32) == 900;
        CHECK.is(name + ", whether it faults", faults, fault != NO_FAULT);
        if (fault != NO_FAULT) {
            CHECK.is(name + ", V", bench.r(16), v);
            CHECK.is(name + ", the fault", bench.r(17), fault);
            CHECK.is(name + ", the access", bench.r(18), access);
        }
    }

    private static void ranges() {
        long[] faulting = {
            -8, -16384, Long.MIN_VALUE, 16384, 20000, 32760, 32768 + 4096, 40000, 65528, 65536,
            65536 + 32768, 0x100000000L, 0x100000000L + 32768, Long.MAX_VALUE - 7, -32768
        };
        long[] fine = {32768, 32768 + 8, 32768 + 4088};
        for (int access = EXECUTE; access <= WRITE; access++) {
            for (long v : faulting) {
                Bench bench = access(new Bench().vector(2, 900), access, v);
                faultIs("kernel at " + v, bench, access, v, 1);
            }
            for (long v : fine) {
                Bench bench = new Bench().vector(2, 900).codeAt((int) v - 32768, Code.NOTHING, 0);
                faultIs("kernel at " + v, access(bench, access, v), access, v, NO_FAULT);
            }
            Bench empty = access(new Bench().vector(2, 900), access, 16376);
            faultIs("no tables", empty, access, 16376, 0);
        }
    }

    private static void userFindsNothingDirect() {
        long[] addresses = {32768, 32776, 36856, 36864, 65528, -8, 16384};
        for (long v : addresses) {
            Bench fetch = new Bench().vector(2, 900).user(0, v, 0);
            fetch.run(1);
            faultIs("user fetches at " + v, fetch, EXECUTE, v, 1);
            for (int access = READ; access <= WRITE; access++) {
                Bench bench = new Bench().tables().page(0, 3, Bench.OPEN).vector(2, 900).put(1, v);
                bench.codeAt(768, Code.memory(access == READ ? 0x29 : 0x2D, 2, 1, 0));
                bench.user(0, 0, 0).run(1);
                faultIs("user at " + v, bench, access, v, 1);
            }
        }
    }

    private static int faultOf(int bits, int access, boolean user) {
        int needed = access == WRITE ? (user ? 128 : 64) : (user ? 32 : 16);
        if ((bits & needed) == 0) {
            return 1;
        }
        if ((bits & 1) == 0) {
            return 0;
        }
        if (access == READ) {
            return (bits & 2) != 0 ? 3 : NO_FAULT;
        }
        if (access == WRITE) {
            return (bits & 4) != 0 ? 4 : NO_FAULT;
        }
        return (bits & 8) != 0 ? 2 : NO_FAULT;
    }

    private static void everyDescriptor() {
        for (int bits = 0; bits < 256; bits++) {
            for (int access = EXECUTE; access <= WRITE; access++) {
                kernelMeets(bits, access);
                userMeets(bits, access);
            }
        }
    }

    // The page is number 4 of the memory, and its first word a branch by 1.
    private static void kernelMeets(int bits, int access) {
        Bench bench = new Bench().tables().page(1, 4, bits).vector(2, 900);
        bench.codeAt(1024, Code.branch(0x30, 31, 1));
        long before = bench.machine.word(1024);
        access(bench, access, 256);
        int fault = faultOf(bits, access, false);
        String name = "kernel, bits " + bits + ", access " + access;
        faultIs(name, bench, access, 256, fault);
        CHECK.is(name + ", buffer", bench.buffered(), bits & 1);
        boolean stored = access == WRITE && fault == NO_FAULT;
        CHECK.is(name + ", memory", bench.machine.word(1024), stored ? 0x5A5A : before);
        CHECK.is(name + ", R2", bench.r(2), access == READ && fault == NO_FAULT ? before : 0x5A5A);
        if (access == EXECUTE && fault == NO_FAULT) {
            CHECK.is(name + ", PC", bench.r(32), 264);
        }
    }

    private static void userMeets(int bits, int access) {
        Bench bench = new Bench().tables().page(0, 3, Bench.OPEN).page(1, 4, bits).vector(2, 900);
        bench.codeAt(1024, Code.branch(0x30, 31, 1)).put(1, 256).put(2, 0x5A5A);
        bench.codeAt(768, Code.memory(access == READ ? 0x29 : 0x2D, 2, 1, 0));
        bench.user(0, access == EXECUTE ? 256 : 0, 0);
        CHECK.is("steps", bench.run(1), 1);
        int fault = faultOf(bits, access, true);
        String name = "user, bits " + bits + ", access " + access;
        faultIs(name, bench, access, 256, fault);
        CHECK.is(name + ", PS", bench.status(), fault == NO_FAULT ? 8 : 0);
        CHECK.is(name + ", buffer", bench.buffered(), (bits & 1) + (access == EXECUTE ? 0 : 1));
    }

    // Each level has four tables of its own, so that no index is taken for another.
    private static void indices() {
        int[][] indices = {{0, 0, 0}, {1, 2, 3}, {3, 2, 1}, {2, 0, 3}, {3, 3, 3}, {0, 1, 2}, {0, 0, 1}, {1, 0, 0}};
        for (int[] index : indices) {
            Bench bench = new Bench().space(96, 0);
            bench.set(96 + 8 * index[0], Bench.descriptor(9, Bench.VALID));
            bench.set(2304 + 8 * index[1], Bench.descriptor(10, Bench.VALID));
            bench.set(2560 + 8 * index[2], Bench.descriptor(15, Bench.OPEN));
            bench.set(3840 + 40, 123456).vector(2, 900);
            long v = index[0] << 12 | index[1] << 10 | index[2] << 8 | 40;
            access(bench, READ, v);
            CHECK.is("found at " + v, bench.r(2), 123456);
            for (int bit = 8; bit <= 13; bit++) {
                access(bench, READ, v ^ 1 << bit);
                CHECK.is("not found at " + (v ^ 1 << bit), bench.r(32), 900);
            }
        }
    }

    private static void invalidTables() {
        for (int access = EXECUTE; access <= WRITE; access++) {
            Bench first = new Bench().tables().page(0, 3, Bench.OPEN).vector(2, 900);
            first.set(Bench.TABLE, Bench.descriptor(Bench.SECOND, 254));
            faultIs("first", access(first, access, 8), access, 8, 0);
            CHECK.is("buffer", first.buffered(), 0);
            Bench second = new Bench().tables().page(0, 3, Bench.OPEN).vector(2, 900);
            second.set(256 * Bench.SECOND, Bench.descriptor(Bench.THIRD, 254));
            faultIs("second", access(second, access, 8), access, 8, 0);
            CHECK.is("buffer", second.buffered(), 0);
        }
        Bench bare = new Bench().tables().page(0, 3, Bench.OPEN).vector(2, 900).set(768, 44);
        bare.set(Bench.TABLE, 0xFFFFFFF000000000L | Bench.descriptor(Bench.SECOND, 0x0F | 0xFFFFFF00));
        access(bare, READ, 0);
        CHECK.is("of the first two only VALID and the number count", bare.r(2), 44);
    }

    private static void tableIsMasked() {
        Bench bench = new Bench().tables().page(0, 3, Bench.OPEN).set(768, 44);
        bench.set(4064, bench.machine.word(Bench.TABLE)).space(-1, 0).vector(2, 900);
        CHECK.is("TABLE", bench.r(37), 4064);
        access(bench, READ, 0);
        CHECK.is("the table at 4064", bench.r(2), 44);
        bench.set(4088, Bench.descriptor(Bench.SECOND, 1));
        access(bench, READ, 0x3000);
        CHECK.is("its last descriptor", bench.r(2), 44);
    }

    private static void placesInAPage() {
        for (int number = 0; number < 16; number++) {
            if (number == 1 || number >= 8 && number <= 10) {
                continue;
            }
            Bench bench = new Bench().tables().vector(2, 900);
            bench.set(256 * Bench.THIRD, 0xFFFFFFF000000000L | Bench.descriptor(number, Bench.OPEN | 0xFFFFFF00));
            access(bench, WRITE, 248);
            CHECK.is("number " + number, bench.machine.word(256 * number + 248), 0x5A5A);
            access(bench, READ, 248);
            CHECK.is("number " + number, bench.r(2), 0x5A5A);
        }
    }

    private static Bench fourPages() {
        Bench bench = new Bench().tables().vector(2, 900);
        for (int page = 0; page < 4; page++) {
            bench.page(page, 3 + page, Bench.OPEN);
        }
        return bench;
    }

    private static void bufferKeepsDescriptors() {
        Bench bench = fourPages().set(768, 33).set(1024, 44);
        access(bench, READ, 0);
        CHECK.is("walked", bench.r(2), 33);
        bench.page(0, 4, Bench.OPEN);
        access(bench, READ, 0);
        CHECK.is("from the buffer", bench.r(2), 33);
        bench.page(0, 4, 0).set(Bench.TABLE, 0);
        access(bench, READ, 0);
        CHECK.is("from the buffer, without tables", bench.r(2), 33);
        CHECK.is("only one", bench.buffered(), 1);
        bench.call(0x33, 0, 0);
        access(bench, READ, 0);
        CHECK.is("the buffer is empty", bench.r(32), 900);

        Bench refused = fourPages().page(0, 3, Bench.VALID | Bench.KERNEL_READ);
        access(refused, WRITE, 0);
        faultIs("kept", refused, WRITE, 0, 1);
        CHECK.is("kept all the same", refused.buffered(), 1);
        refused.page(0, 3, Bench.OPEN);
        access(refused, WRITE, 0);
        faultIs("kept as it was", refused, WRITE, 0, 1);
    }

    // A page that is found in the buffer is not younger for that.
    private static void bufferIsFirstInFirstOut() {
        Bench bench = fourPages();
        for (int page = 0; page < 4; page++) {
            access(bench, READ, 256 * page);
        }
        access(bench, READ, 0);
        CHECK.is("four", bench.buffered(), 4);
        access(bench, READ, 1024);
        CHECK.is("still four", bench.buffered(), 4);
        for (int page = 0; page < 4; page++) {
            bench.page(page, 3 + page, 0);
        }
        access(bench, READ, 256);
        CHECK.is("page 1 is there", bench.r(32), Bench.CODE + 4);
        access(bench, READ, 768);
        CHECK.is("page 3 is there", bench.r(32), Bench.CODE + 4);
        access(bench, READ, 1024);
        CHECK.is("page 4 is there", bench.r(32), Bench.CODE + 4);
        access(bench, READ, 0);
        CHECK.is("page 0 has gone", bench.r(32), 900);
        theNextGoes(bench);
    }

    private static void theNextGoes(Bench bench) {
        int[] there = {2, 3, 4};
        for (int round = 0; round < 3; round++) {
            bench.page(1, 4, Bench.OPEN);
            access(bench, READ, 0x500 + 0x400 * round);
            bench.page(1, 4, 0);
            access(bench, READ, 256 * (round == 0 ? 1 : there[round - 1]));
            CHECK.is("round " + round + ", the oldest has gone", bench.r(32), 900);
            for (int i = round; i < 3; i++) {
                access(bench, READ, 256 * there[i]);
                CHECK.is("round " + round + ", page " + there[i], bench.r(32), Bench.CODE + 4);
            }
        }
        CHECK.is("four", bench.buffered(), 4);
    }

    // Emptied after one has gone, it must not go on with the next one's turn.
    private static void bufferBeginsAnew() {
        Bench bench = fourPages();
        for (int page = 0; page < 5; page++) {
            access(bench, READ, 256 * page);
        }
        bench.call(0x33, 0, 0);
        for (int page = 0; page < 5; page++) {
            access(bench, READ, 256 * page);
        }
        CHECK.is("four", bench.buffered(), 4);
        bench.set(Bench.TABLE, 0);
        for (int page = 1; page < 5; page++) {
            access(bench, READ, 256 * page);
            CHECK.is("page " + page + " is there", bench.r(32), Bench.CODE + 4);
        }
        access(bench, READ, 0);
        CHECK.is("page 0 has gone", bench.r(32), 900);
    }

    private static void bufferKnowsSpaces() {
        Bench bench = fourPages().set(768, 33).set(1024, 44);
        access(bench, READ, 0);
        bench.page(0, 4, Bench.OPEN).space(Bench.TABLE, 6);
        access(bench, READ, 0);
        CHECK.is("another space walks", bench.r(2), 44);
        CHECK.is("two", bench.buffered(), 2);
        bench.space(Bench.TABLE, 5);
        access(bench, READ, 0);
        CHECK.is("the first space again", bench.r(2), 33);
        bench.space(64, 6);
        access(bench, READ, 0);
        CHECK.is("another table, the same space", bench.r(2), 44);
        CHECK.is("two", bench.buffered(), 2);
    }

    private static void bufferTakesValidOnesAlone() {
        Bench bench = fourPages().page(0, 3, Bench.OPEN & ~Bench.VALID);
        access(bench, READ, 0);
        faultIs("not valid", bench, READ, 0, 0);
        CHECK.is("buffer", bench.buffered(), 0);
        bench.page(0, 3, Bench.OPEN).set(768, 33);
        access(bench, READ, 0);
        CHECK.is("walked anew", bench.r(2), 33);
        CHECK.is("buffer", bench.buffered(), 1);
        access(bench, READ, Bench.DIRECT);
        access(bench, READ, 20000);
        CHECK.is("the others leave the buffer alone", bench.buffered(), 1);
    }

    private static void fetchesComeIntoTheBuffer() {
        Bench bench = fourPages().codeAt(768, Code.NOTHING, Code.NOTHING).put(32, 0);
        CHECK.is("steps", bench.run(2), 2);
        CHECK.is("PC", bench.r(32), 8);
        CHECK.is("buffer", bench.buffered(), 1);
        bench.codeAt(1020, Code.memory(0x08, 4, 31, 9)).codeAt(1024, Code.memory(0x08, 5, 31, 8)).put(32, 252);
        CHECK.is("steps", bench.run(2), 2);
        CHECK.is("the last of a page", bench.r(4), 9);
        CHECK.is("the first of the next", bench.r(5), 8);
        CHECK.is("buffer", bench.buffered(), 2);
    }

    private static void fetchFaults() {
        Bench bench = new Bench().vector(2, 900).put(32, 16384);
        CHECK.is("steps", bench.run(1), 1);
        faultIs("fetch", bench, EXECUTE, 16384, 1);
        CHECK.is("PC as it was", bench.machine.word(4056), 16384);
        Bench halting = new Bench().put(30, 0).put(32, 16384);
        halting.run(1);
        CHECK.is("halted", halting.halted(), 2);
        CHECK.is("PC has not grown", halting.r(32), 16384);
        Bench last = new Bench().vector(2, 900).codeAt(4092, Code.NOTHING).put(32, 32768 + 4092).put(30, 34000);
        last.run(1);
        CHECK.is("behind the last instruction", last.r(32), 36864);
        last.run(1);
        faultIs("behind the memory", last, EXECUTE, 36864, 1);
    }
}
