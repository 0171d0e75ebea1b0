/** The boundary cases of the CALLS, RETURN among them. */
public final class CallEdgesTest {
    private static final long MIN = Long.MIN_VALUE;
    private static final long MAX = Long.MAX_VALUE;
    private static final int RETURN = Code.call(0x3F);
    private static final int FRAME = 1024;

    public static void main(String[] args) {
        Sentences document = new Sentences();
        numbers(document);
        comingBack(document);
        registers(document);
        document.end();
    }

    private static void numbers(Sentences document) {
        document.holds("80h, 81h, AAh: ENTRY 3 with 0, 1, 2, 0, 0 for the three, PC of the next instruction",
                CallEdgesTest::threeCalls);
        document.holds("83h: ENTRY 5 with R16, R17, R18", CallEdgesTest::callOfTheKernel);
        document.holds("86h: nothing.", CallEdgesTest::nothing);
        document.holds("In KERNEL (in USER: ENTRY 3 with 3, 0, 0)", CallEdgesTest::notForUser);
        document.holds("00: HALTED with 1.", CallEdgesTest::halts);
        document.holds("Others, in both modes: ENTRY 3 with 4, 0, 0.", CallEdgesTest::others);
    }

    private static Bench prepared() {
        return new Bench().vector(3, 400).vector(5, 480).put(16, 116).put(17, 117).put(18, 118);
    }

    private static void entered(Check check, Bench bench, long pc, long a, long stored) {
        bench.run(1);
        check.is("PC", bench.r(32), pc);
        check.is("R16", bench.r(16), a);
        check.is("R17", bench.r(17), pc == 480 ? 117 : 0);
        check.is("R18", bench.r(18), pc == 480 ? 118 : 0);
        check.is("PC as it is stored", bench.machine.word(4056), stored);
        check.is("R16 as it is stored", bench.machine.word(4072), 116);
        check.is("entries", bench.entries(), 1);
    }

    private static void threeCalls(Check check) {
        int[] numbers = {0x80, 0x81, 0xAA};
        for (int i = 0; i < 3; i++) {
            entered(check, prepared().code(Code.call(numbers[i])), 400, i, Bench.CODE + 4);
            entered(check, prepared().userCode(Code.call(numbers[i])), 400, i, 4);
        }
    }

    private static void callOfTheKernel(Check check) {
        entered(check, prepared().code(Code.call(0x83)), 480, 116, Bench.CODE + 4);
        entered(check, prepared().userCode(Code.call(0x83)), 480, 116, 4);
    }

    private static void nothing(Check check) {
        Bench kernel = prepared().code(Code.call(0x86));
        Bench untouched = prepared().code(Code.call(0x86)).put(32, Bench.CODE + 4);
        check.is("steps", kernel.run(1), 1);
        check.isTrue("only PC has grown", kernel.seen().equals(untouched.seen()));
        Bench user = prepared().userCode(Code.call(0x86));
        user.run(1);
        check.is("PC in USER mode", user.r(32), 4);
        check.is("PS in USER mode", user.status(), 8);
    }

    private static final int[] FOR_KERNEL = {
        0x00, 0x3F, 0x34, 0x35, 0x36, 0x37, 0x38, 0x3A, 0x31, 0x32, 0x33, 0x30
    };

    private static void notForUser(Check check) {
        for (int number : FOR_KERNEL) {
            Bench user = prepared().put(0, 100).call(0x31, 36, 0).call(0x38, 34, 0).userCode(Code.call(number));
            entered(check, user, 400, 3, 0);
            check.is("R0", user.r(0), 100);
            check.is("VALUE", user.r(36), 36);
            check.is("KGP", user.r(35), 0);
            check.is("TABLE", user.r(37), Bench.TABLE);
            check.is("SPACE", user.r(38), 5);
            check.is("descriptors", user.buffered(), 1);
            check.is("VECTOR 5", user.r(45), 480);
            check.is("PS", user.status(), 0);
            check.is("halted", user.halted(), 0);
        }
    }

    private static void halts(Check check) {
        Bench bench = prepared().code(Code.call(0));
        check.is("steps", bench.run(31), 1);
        check.is("halted", bench.halted(), 1);
        check.is("PC", bench.r(32), Bench.CODE + 4);
        check.is("entries", bench.entries(), 0);
        check.is("R30", bench.r(30), Bench.STACK);
    }

    private static void others(Check check) {
        String known = " 80 81 aa 83 86 00 3f 34 35 36 37 38 3a 31 32 33 30 ";
        int others = 0;
        for (int number = 0; number < 256; number++) {
            if (!known.contains(String.format(" %02x ", number))) {
                entered(check, prepared().code(Code.call(number)), 400, 4, Bench.CODE);
                entered(check, prepared().userCode(Code.call(number)), 400, 4, 0);
                others++;
            }
        }
        check.is("others", others, 256 - 17);
    }

    private static void comingBack(Sentences document) {
        document.holds("six longs are READ at R30", CallEdgesTest::sixLongs);
        document.holds("PS (& 15)", CallEdgesTest::everyStatus);
        document.holds("PC (without its lower two bits)", CallEdgesTest::lowerTwoBits);
        document.holds("R30 grows by 48", CallEdgesTest::stackGrows);
        document.holds("if the mode is USER then, KSP becomes R30, R30 USP", CallEdgesTest::stacks);
        document.holds("the lock is off", CallEdgesTest::lockIsOff);
        document.holds("a READ that faults", CallEdgesTest::eachReadMayFault);
        document.holds("or an R30 that can't be divided by 8: HALTED with 3.", CallEdgesTest::oddStacks);
    }

    private static Bench frame(int place, long status, long pc) {
        Bench bench = new Bench().put(30, Bench.DIRECT + place).set(place, status).set(place + 8, pc);
        bench.set(place + 16, -29).set(place + 24, MIN).set(place + 32, MAX).set(place + 40, 0x100000001L);
        return bench.call(0x38, 3434, 0).put(33, 3333).put(29, 29).put(16, 16).put(17, 17).put(18, 18).code(RETURN);
    }

    private static void sixLongs(Check check) {
        for (int place : new int[] {0, 4096 - 48}) {
            Bench bench = frame(place, 3, 4000);
            bench.run(1);
            check.is("halted", bench.halted(), 0);
            check.is("PS", bench.status(), 3);
            check.is("PC", bench.r(32), 4000);
            check.is("R29", bench.r(29), -29);
            check.is("R16", bench.r(16), MIN);
            check.is("R17", bench.r(17), MAX);
            check.is("R18", bench.r(18), 0x100000001L);
            check.is("the memory", bench.machine.word(place), 3);
            check.is("entries", bench.entries(), 0);
        }
        Bench mapped = frame(FRAME, 8, 4000).tables().page(0, FRAME / 256, Bench.VALID | Bench.KERNEL_READ).put(30, 0);
        mapped.run(1);
        check.is("from address 0 on, readable by the kernel alone", mapped.halted(), 0);
        check.is("PS", mapped.status(), 8);
        check.is("the page came into the buffer", mapped.buffered(), 1);
    }

    private static void everyStatus(Check check) {
        for (int status = 0; status < 16; status++) {
            long[] same = {status, status + 16, status - 16, status + 0x100000000L, status + MIN};
            for (long told : same) {
                Bench bench = frame(FRAME, told, 4000);
                bench.run(1);
                check.is("PS of " + told, bench.status(), status);
            }
        }
    }

    private static void lowerTwoBits(Check check) {
        for (int low = 0; low < 4; low++) {
            Bench bench = frame(FRAME, 0, 4000 + low);
            bench.run(1);
            check.is("PC of 4000 + " + low, bench.r(32), 4000);
            Bench below = frame(FRAME, 8, MIN + low);
            below.run(1);
            check.is("PC of the lowest + " + low, below.r(32), MIN);
        }
    }

    private static void stackGrows(Check check) {
        Bench bench = frame(4096 - 48, 0, 4000);
        bench.run(1);
        check.is("R30 behind the memory", bench.r(30), Bench.DIRECT + 4096);
        check.is("KSP stays in KERNEL mode", bench.r(33), 3333);
        check.is("USP stays in KERNEL mode", bench.r(34), 3434);
    }

    private static void stacks(Check check) {
        for (int level = 0; level <= 7; level++) {
            Bench bench = frame(FRAME, 8 + level, 4000);
            bench.run(1);
            check.is("KSP", bench.r(33), Bench.DIRECT + FRAME + 48);
            check.is("R30", bench.r(30), 3434);
            check.is("USP", bench.r(34), 3434);
        }
    }

    private static void lockIsOff(Check check) {
        for (int status = 0; status <= 8; status += 8) {
            Bench bench = frame(FRAME, status, 4000).put(1, Bench.DIRECT);
            bench.code(Code.memory(0x2A, 2, 1, 0), RETURN).run(1);
            check.isTrue("before", bench.locked());
            bench.run(1);
            check.is("after", bench.locked(), false);
        }
    }

    private static void haltedWithThree(Check check, Bench bench, long stack) {
        bench.put(30, stack).put(1, Bench.DIRECT).code(Code.memory(0x2A, 2, 1, 0), RETURN);
        check.is("steps", bench.run(31), 2);
        check.is("halted at " + stack, bench.halted(), 3);
        check.is("PS", bench.status(), 7);
        check.is("PC", bench.r(32), Bench.CODE + 8);
        check.is("R29", bench.r(29), 29);
        check.is("R16", bench.r(16), 16);
        check.is("R17", bench.r(17), 17);
        check.is("R18", bench.r(18), 18);
        check.is("R30", bench.r(30), stack);
        check.is("KSP", bench.r(33), 3333);
        check.isTrue("the lock", bench.locked());
        check.is("entries", bench.entries(), 0);
    }

    // Page 0 has so many of the six longs, and page 1 none.
    private static void eachReadMayFault(Check check) {
        for (int fit = 0; fit < 6; fit++) {
            Bench bench = frame(FRAME + 256 - 48, 8, 4000).tables().page(0, FRAME / 256, Bench.OPEN);
            haltedWithThree(check, bench, 256 - 8 * fit);
        }
        Bench all = frame(FRAME + 256 - 48, 8, 4000).tables().page(0, FRAME / 256, Bench.OPEN).put(30, 256 - 48);
        all.run(1);
        check.is("all six", all.halted(), 0);
        long[] stacks = {-8, -48, 16384, 16384 - 8, 32768 - 8, 36864 - 40, 36864, 65536, MIN, MAX - 7};
        for (long stack : stacks) {
            haltedWithThree(check, frame(FRAME, 8, 4000), stack);
        }
        int closed = Bench.OPEN & ~Bench.KERNEL_READ;
        haltedWithThree(check, frame(FRAME, 8, 4000).tables().page(0, FRAME / 256, closed), 0);
        int onRead = Bench.OPEN | Bench.ON_READ;
        haltedWithThree(check, frame(FRAME, 8, 4000).tables().page(0, FRAME / 256, onRead), 0);
    }

    private static void oddStacks(Check check) {
        for (int low = 1; low < 8; low++) {
            haltedWithThree(check, frame(FRAME, 8, 4000), Bench.DIRECT + FRAME + low);
        }
    }

    private static void registers(Sentences document) {
        document.holds("34h: VECTOR R17 & 7 (0 .. 5, otherwise nothing) becomes R16 without its lower two bits.",
                CallEdgesTest::vectors);
        document.holds("35h: R0 becomes the level, the level R16 & 7.", CallEdgesTest::levels);
        document.holds("36h: R0 becomes PS.", CallEdgesTest::status);
        document.holds("37h: KGP becomes R16.", check -> keeps(check, 0x37, 35));
        document.holds("38h, 3Ah: USP becomes R16; R0 becomes USP.", CallEdgesTest::userStack);
        document.holds("31h, 32h: VALUE becomes R16; R0 becomes VALUE.", CallEdgesTest::value);
        document.holds("33h: the buffer is empty.", CallEdgesTest::emptyBuffer);
        document.holds("30h: R0 becomes 256 * SPACE + TABLE", CallEdgesTest::spaceAndTable);
        document.holds("TABLE becomes R16 & 4064, SPACE R17 & 255.", CallEdgesTest::masks);
    }

    private static Bench called(int number, long r16, long r17) {
        Bench bench = new Bench().put(0, -100).put(16, r16).put(17, r17).code(Code.call(number));
        bench.run(1);
        return bench;
    }

    private static void vectors(Check check) {
        for (int k = 0; k < 8; k++) {
            for (long r17 : new long[] {k, k + 8, k - 8, k + MIN, k + 0x100000000L}) {
                Bench bench = called(0x34, 403, r17);
                for (int other = 0; other < 6; other++) {
                    check.is("VECTOR " + other + " after " + r17, bench.r(40 + other), other == k ? 400 : 0);
                }
                check.is("R0", bench.r(0), -100);
                check.is("entries", bench.entries(), 0);
            }
        }
        check.is("the lowest", called(0x34, MIN + 1, 0).r(40), MIN);
        check.is("the highest", called(0x34, MAX, 5).r(45), MAX - 3);
    }

    private static void levels(Check check) {
        for (int level = 0; level < 8; level++) {
            for (long r16 : new long[] {level, level + 8, level - 8, level + MIN, level + 0x100000000L}) {
                Bench bench = called(0x35, r16, 0);
                check.is("R0", bench.r(0), 7);
                check.is("PS after " + r16, bench.status(), level);
                bench.put(16, 7).put(32, Bench.CODE).run(1);
                check.is("R0", bench.r(0), level);
            }
        }
    }

    private static void status(Check check) {
        for (int level = 0; level <= 7; level++) {
            Bench bench = new Bench().level(level).put(0, -1).code(Code.call(0x36));
            bench.run(1);
            check.is("R0", bench.r(0), level);
            check.is("PS", bench.status(), level);
        }
    }

    private static void keeps(Check check, int number, int r) {
        for (long v : new long[] {0, 1, -1, MIN, MAX, 0x100000003L}) {
            Bench bench = called(number, v, 0);
            for (int other = 33; other <= 36; other++) {
                check.is("register " + other, bench.r(other), other == r ? v : other == 33 ? Bench.STACK : 0);
            }
            check.is("R0", bench.r(0), -100);
            check.is("R29", bench.r(29), 0);
            check.is("R30", bench.r(30), Bench.STACK);
        }
    }

    private static void reads(Check check, int writer, int reader) {
        for (long v : new long[] {0, 1, -1, MIN, MAX, 0x100000003L}) {
            Bench bench = called(writer, v, 0).put(16, 5).put(32, Bench.CODE).code(Code.call(reader));
            bench.run(1);
            check.is("R0", bench.r(0), v);
        }
    }

    private static void userStack(Check check) {
        keeps(check, 0x38, 34);
        reads(check, 0x38, 0x3A);
    }

    private static void value(Check check) {
        keeps(check, 0x31, 36);
        reads(check, 0x31, 0x32);
    }

    // From an empty, a half full and a full buffer; after it, four fit again.
    private static void emptyBuffer(Check check) {
        for (int pages = 0; pages <= 6; pages++) {
            Bench bench = new Bench().tables();
            for (int page = 0; page < 4; page++) {
                bench.page(page, 4, Bench.OPEN);
            }
            readPages(bench, pages);
            bench.code(Code.call(0x33)).put(32, Bench.CODE).run(1);
            check.is("descriptors after " + pages, bench.buffered(), 0);
            readPages(bench, 5);
            check.is("full again", bench.buffered(), 4);
            bench.set(Bench.TABLE, 0).vector(2, 400);
            for (int page = 4; page >= 0; page--) {
                bench.code(Code.memory(0x29, 2, 31, 256 * page)).put(32, Bench.CODE).run(1);
                check.is("page " + page, bench.r(32), page == 0 ? 400 : Bench.CODE + 4);
            }
        }
        check.is("R0", called(0x33, 0, 0).r(0), -100);
    }

    private static void readPages(Bench bench, int pages) {
        for (int page = 0; page < pages; page++) {
            bench.code(Code.memory(0x29, 2, 31, 256 * page)).put(32, Bench.CODE).run(1);
        }
    }

    private static void spaceAndTable(Check check) {
        long[][] pairs = {{0, 0}, {4064, 255}, {32, 1}, {0, 255}, {4064, 0}, {256, 3}};
        for (long[] pair : pairs) {
            Bench bench = called(0x30, pair[0], pair[1]);
            check.is("R0 at first", bench.r(0), 0);
            bench.put(16, 64).put(17, 2).put(32, Bench.CODE).run(1);
            check.is("R0", bench.r(0), 256 * pair[1] + pair[0]);
            check.is("TABLE", bench.r(37), 64);
            check.is("SPACE", bench.r(38), 2);
        }
        Bench kept = new Bench().tables().page(0, 4, Bench.OPEN);
        readPages(kept, 1);
        kept.put(16, 0).put(17, 0).code(Code.call(0x30)).put(32, Bench.CODE).run(1);
        check.is("the buffer stays as it is", kept.buffered(), 1);
    }

    private static void masks(Check check) {
        long[] told = {-1, 31, 32, 4095, 4096, 8191, MIN, MAX, 0x100000020L};
        long[] tables = {4064, 0, 32, 4064, 0, 4064, 0, 4064, 32};
        for (int i = 0; i < told.length; i++) {
            check.is("TABLE of " + told[i], called(0x30, told[i], 0).r(37), tables[i]);
        }
        long[] numbers = {-1, 255, 256, 257, 511, MIN, MAX, 0x100000002L, -256};
        long[] spaces = {255, 255, 0, 1, 255, 0, 255, 2, 0};
        for (int i = 0; i < numbers.length; i++) {
            check.is("SPACE of " + numbers[i], called(0x30, 0, numbers[i]).r(38), spaces[i]);
        }
    }
}
