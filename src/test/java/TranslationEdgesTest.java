/** The boundary cases of TRANSLATION: the ends of each range, tables, rights, and the full buffer. */
public final class TranslationEdgesTest {
    private static final int EXECUTE = -1;
    private static final int READ = 0;
    private static final int WRITE = 1;
    private static final int NONE = -1;
    private static final int FAULTED = 400;
    private static final int PAGE = 4;

    public static void main(String[] args) {
        Sentences document = new Sentences();
        ranges(document);
        tables(document);
        buffer(document);
        rights(document);
        document.end();
    }

    private static int code(int access) {
        return Code.memory(access == WRITE ? 0x2C : 0x28, 2, 1, 0);
    }

    /** One access of 4 bytes at V by the kernel; a load goes into R2. */
    private static Bench kernel(Bench bench, int access, long v) {
        bench.put(1, v).put(2, 22).put(16, -9).put(17, -9).put(18, -9);
        if (access == EXECUTE) {
            bench.put(32, v);
        } else {
            bench.code(code(access)).put(32, Bench.CODE);
        }
        bench.run(1);
        return bench;
    }

    /** The same by the user, whose code stands in page 15: it is one with the page 3 of the tables. */
    private static Bench user(Bench bench, int access, long v) {
        bench.page(3, Bench.USER_PAGE, Bench.OPEN).codeAt(256 * Bench.USER_PAGE, code(access));
        bench.put(1, v).put(2, 22).user(0, access == EXECUTE ? v : 3840, 0).run(1);
        return bench;
    }

    private static Bench bench() {
        return new Bench().vector(2, FAULTED).tables();
    }

    private static void faultIs(Check check, Bench bench, int access, long v, int fault) {
        String name = "access " + access + " at " + v;
        check.is(name + ", whether it faults", bench.r(32) == FAULTED, fault != NONE);
        if (fault != NONE) {
            check.is(name + ", V", bench.r(16), v);
            check.is(name + ", the fault", bench.r(17), fault);
            check.is(name + ", the access", bench.r(18), access);
        }
    }

    private static void faultsInBothModes(Check check, int fault, long... addresses) {
        for (long v : addresses) {
            for (int access = EXECUTE; access <= WRITE; access++) {
                faultIs(check, kernel(allOpen(), access, v), access, v, fault);
                faultIs(check, user(allOpen(), access, v), access, v, fault);
            }
        }
    }

    // All four first descriptors lead to the same tables, whose pages are open.
    private static Bench allOpen() {
        Bench bench = bench();
        for (int i = 0; i < 4; i++) {
            bench.set(Bench.TABLE + 8 * i, Bench.descriptor(Bench.SECOND, Bench.VALID)).page(i, PAGE, Bench.OPEN);
        }
        return bench.codeAt(256 * PAGE, Code.NOTHING).codeAt(256 * PAGE + 252, Code.NOTHING);
    }

    private static void ranges(Sentences document) {
        document.holds("V not 0 .. 65535", TranslationEdgesTest::outside);
        document.holds("or 16384 .. 32767: fault 1", TranslationEdgesTest::between);
        document.holds("From 32768 on: the place is V - 32768 if that is below 4096",
                TranslationEdgesTest::direct);
        document.holds("and the mode is KERNEL, otherwise fault 1", TranslationEdgesTest::directForUser);
        document.holds("Below 16384: the page is V >> 8", TranslationEdgesTest::pages);
    }

    private static void outside(Check check) {
        faultsInBothModes(check, 1, -4, -256, -16384, Long.MIN_VALUE, 65536, 65536 + 32768, 0x100000000L,
                0x100000000L + 32768, Long.MAX_VALUE - 3, Long.MIN_VALUE + 32768);
        faultsInBothModes(check, NONE, 0);
    }

    private static void between(Check check) {
        faultsInBothModes(check, NONE, 16380);
        faultsInBothModes(check, 1, 16384, 16640, 32764);
        faultIs(check, kernel(bench().codeAt(0, Code.NOTHING), EXECUTE, 32768), EXECUTE, 32768, NONE);
    }

    private static void direct(Check check) {
        for (int place : new int[] {0, 4, 4088, 4092}) {
            Bench load = bench().codeAt(place, 77);
            faultIs(check, kernel(load, READ, 32768 + place), READ, 32768 + place, NONE);
            check.is("loaded at " + place, load.r(2), 77);
            Bench store = bench();
            faultIs(check, kernel(store, WRITE, 32768 + place), WRITE, 32768 + place, NONE);
            check.is("stored at " + place, store.machine.word(place & ~7), 22L << 8 * (place & 4));
            Bench fetch = bench().codeAt(place, Code.NOTHING);
            faultIs(check, kernel(fetch, EXECUTE, 32768 + place), EXECUTE, 32768 + place, NONE);
        }
        faultsInBothModes(check, 1, 36864, 36868, 40960, 65532);
    }

    private static void directForUser(Check check) {
        for (int v : new int[] {32768, 36860}) {
            for (int access = EXECUTE; access <= WRITE; access++) {
                faultIs(check, user(allOpen(), access, v), access, v, 1);
            }
        }
    }

    private static void pages(Check check) {
        Bench bench = bench().page(0, PAGE, Bench.OPEN).page(1, PAGE + 1, Bench.OPEN);
        bench.codeAt(256 * PAGE + 252, 11).codeAt(256 * PAGE + 256, 12);
        kernel(bench, READ, 252);
        check.is("the end of page 0", bench.r(2), 11);
        check.is("descriptors", bench.buffered(), 1);
        kernel(bench, READ, 256);
        check.is("the start of page 1", bench.r(2), 12);
        check.is("descriptors", bench.buffered(), 2);
        Bench last = allOpen().page(3, PAGE + 2, Bench.OPEN).codeAt(256 * PAGE + 764, 13);
        kernel(last, READ, 16380);
        check.is("the end of page 63", last.r(2), 13);
    }

    private static void tables(Sentences document) {
        document.holds("three tables of four descriptors, 8 bytes each, the first at TABLE (& 4064)",
                TranslationEdgesTest::firstTable);
        document.holds("indices bits 13, 12, then 11, 10, then 9, 8 of V", TranslationEdgesTest::indices);
        document.holds("the next table begins at 256 times the NUMBER of the descriptor before (bits 32 .. 35)",
                TranslationEdgesTest::numbers);
        document.holds("If one of the first two is not VALID (bit 0): fault 0.", TranslationEdgesTest::firstTwo);
        document.holds("The place is 256 times its number and V & 255.", TranslationEdgesTest::places);
    }

    private static void firstTable(Check check) {
        for (int table : new int[] {0, 32, 4064}) {
            Bench bench = bench().page(0, PAGE, Bench.OPEN).codeAt(256 * PAGE, 77).set(Bench.TABLE, 0);
            bench.space(table + 31, 0).set(table + 24, Bench.descriptor(Bench.SECOND, Bench.VALID));
            kernel(bench, READ, 0x3000);
            check.is("the last descriptor of the table at " + table, bench.r(2), 77);
            kernel(bench, READ, 0x2000);
            check.is("the one before", bench.r(32), FAULTED);
        }
    }

    private static void indices(Check check) {
        for (int page = 0; page < 64; page++) {
            Bench bench = new Bench().vector(2, FAULTED).space(64, 0).codeAt(256 * PAGE, 77);
            bench.set(64 + 8 * (page >> 4), Bench.descriptor(9, Bench.VALID));
            bench.set(2304 + 8 * (page >> 2 & 3), Bench.descriptor(10, Bench.VALID));
            bench.set(2560 + 8 * (page & 3), Bench.descriptor(PAGE, Bench.OPEN));
            kernel(bench, READ, 256 * page);
            check.is("page " + page, bench.r(2), 77);
            for (int bit = 1; bit < 64; bit *= 2) {
                kernel(bench, READ, 256 * (page ^ bit));
                check.is("page " + page + " with another bit " + bit, bench.r(32), FAULTED);
            }
        }
    }

    // Second and third table and the page are all in the part of the memory that is named.
    private static void numbers(Check check) {
        for (int number : new int[] {0, 15}) {
            long named = 0xFFFFFFF000000000L | Bench.descriptor(number, 0xFFFFFF00 | Bench.OPEN);
            Bench bench = new Bench().vector(2, FAULTED).space(2048, 0).set(2048, named);
            bench.set(256 * number, named).set(256 * number + 128, 77);
            kernel(bench, READ, 128);
            check.is("number " + number, bench.r(2), 77);
        }
    }

    private static void firstTwo(Check check) {
        for (int access = EXECUTE; access <= WRITE; access++) {
            for (int bits : new int[] {0, 254, 0xFFFFFF00}) {
                Bench first = allOpen().set(Bench.TABLE, Bench.descriptor(Bench.SECOND, bits));
                faultIs(check, kernel(first, access, 0), access, 0, 0);
                check.is("buffer", first.buffered(), 0);
                Bench second = allOpen().set(256 * Bench.SECOND, Bench.descriptor(Bench.THIRD, bits));
                faultIs(check, kernel(second, access, 0), access, 0, 0);
                check.is("buffer", second.buffered(), 0);
            }
            Bench bare = allOpen().set(Bench.TABLE, Bench.descriptor(Bench.SECOND, 0x0F));
            faultIs(check, kernel(bare, access, 0), access, 0, NONE);
        }
    }

    private static void places(Check check) {
        for (int number : new int[] {0, 4, 15}) {
            for (int low : new int[] {0, 4, 252}) {
                Bench bench = bench().page(0, number, Bench.OPEN);
                kernel(bench, WRITE, low);
                int place = 256 * number + low;
                check.is("place " + place, bench.machine.word(place & ~7) >>> 8 * (place & 4) & 0xFFFFFFFFL, 22);
            }
        }
    }

    private static void buffer(Sentences document) {
        document.holds("its DESCRIPTOR is that of the BUFFER, if it has one of this page",
                TranslationEdgesTest::fromTheBuffer);
        document.holds("and the present SPACE; otherwise by a WALK", TranslationEdgesTest::ofThisSpace);
        document.holds("if it is valid, it comes into the buffer", TranslationEdgesTest::validOnes);
        document.holds("which has 4, the one that came first goes.", TranslationEdgesTest::fullBuffer);
    }

    private static void fromTheBuffer(Check check) {
        Bench bench = allOpen().codeAt(256 * PAGE, 77);
        kernel(bench, READ, 0);
        bench.set(Bench.TABLE, 0).page(0, PAGE + 1, 0);
        kernel(bench, READ, 0);
        check.is("the tables are not asked again", bench.r(2), 77);
        kernel(bench, READ, 1024);
        check.is("for page 4, whose lower bits are those of page 0, they are", bench.r(32), FAULTED);
        check.is("descriptors", bench.buffered(), 1);
    }

    private static void ofThisSpace(Check check) {
        Bench bench = allOpen().codeAt(256 * PAGE, 77).codeAt(256 * PAGE + 256, 78).space(Bench.TABLE, 0);
        kernel(bench, READ, 0);
        bench.page(0, PAGE + 1, Bench.OPEN).space(Bench.TABLE, 255);
        kernel(bench, READ, 0);
        check.is("space 255", bench.r(2), 78);
        check.is("descriptors", bench.buffered(), 2);
        bench.space(Bench.TABLE, 256);
        kernel(bench, READ, 0);
        check.is("space 0 again", bench.r(2), 77);
        check.is("descriptors", bench.buffered(), 2);
        bench.space(1024, 255);
        kernel(bench, READ, 0);
        check.is("space 255 with another table", bench.r(2), 78);
    }

    private static void validOnes(Check check) {
        for (int access = EXECUTE; access <= WRITE; access++) {
            Bench refused = bench().page(0, PAGE, Bench.VALID);
            faultIs(check, kernel(refused, access, 0), access, 0, 1);
            check.is("valid, though it lets nobody in", refused.buffered(), 1);
            Bench invalid = bench().page(0, PAGE, Bench.OPEN & ~Bench.VALID);
            faultIs(check, kernel(invalid, access, 0), access, 0, 0);
            check.is("not valid", invalid.buffered(), 0);
            Bench open = bench().page(0, PAGE, Bench.OPEN).codeAt(256 * PAGE, Code.NOTHING);
            faultIs(check, kernel(open, access, 0), access, 0, NONE);
            check.is("valid", open.buffered(), 1);
        }
        Bench kept = bench().page(0, PAGE, Bench.VALID);
        kernel(kept, READ, 0).page(0, PAGE, Bench.OPEN);
        faultIs(check, kernel(kept, READ, 0), READ, 0, 1);
    }

    // With the tables gone, only what the buffer has is found; looking at it changes nothing.
    private static void fullBuffer(Check check) {
        for (int pages = 4; pages <= 13; pages++) {
            Bench bench = allOpen();
            for (int page = 0; page < pages; page++) {
                kernel(bench, READ, 256 * page);
                kernel(bench, READ, 256 * Math.max(0, page - 3));
            }
            check.is("descriptors", bench.buffered(), 4);
            bench.set(Bench.TABLE, 0);
            for (int page = Math.max(0, pages - 6); page <= pages; page++) {
                boolean isThere = page >= pages - 4 && page < pages;
                faultIs(check, kernel(bench, READ, 256 * page), READ, 256 * page, isThere ? NONE : 0);
            }
        }
    }

    private static void rights(Sentences document) {
        document.holds("bit 4, 5 (READ and EXECUTE) or 6, 7 (WRITE), for KERNEL, USER, must be 1: otherwise fault 1",
                TranslationEdgesTest::accessBits);
        document.holds("VALID: fault 0", TranslationEdgesTest::validAfterAccess);
        document.holds("bit 1 (READ), 2 (WRITE), 3 (EXECUTE) must be 0: fault 3, 4, 2",
                TranslationEdgesTest::faultOnAccess);
        document.holds("A fault in a step is ENTRY 2 with V, the fault, and -1, 0 or 1.",
                TranslationEdgesTest::entryOfFaults);
    }

    private static void bothModes(Check check, int bits, int access, int kernelDue, int userDue) {
        Bench kernel = bench().page(0, PAGE, bits).codeAt(256 * PAGE, Code.NOTHING);
        faultIs(check, kernel(kernel, access, 0), access, 0, kernelDue);
        Bench user = bench().page(0, PAGE, bits).codeAt(256 * PAGE, Code.NOTHING);
        faultIs(check, user(user, access, 0), access, 0, userDue);
    }

    private static void accessBits(Check check) {
        for (int access = EXECUTE; access <= WRITE; access++) {
            int forKernel = access == WRITE ? Bench.KERNEL_WRITE : Bench.KERNEL_READ;
            int forUser = access == WRITE ? Bench.USER_WRITE : Bench.USER_READ;
            bothModes(check, Bench.VALID, access, 1, 1);
            bothModes(check, Bench.VALID | forKernel, access, NONE, 1);
            bothModes(check, Bench.VALID | forUser, access, 1, NONE);
            bothModes(check, Bench.OPEN & ~forKernel, access, 1, NONE);
            bothModes(check, Bench.OPEN & ~forUser, access, NONE, 1);
        }
    }

    private static void validAfterAccess(Check check) {
        for (int access = EXECUTE; access <= WRITE; access++) {
            int forKernel = access == WRITE ? Bench.KERNEL_WRITE : Bench.KERNEL_READ;
            bothModes(check, 0, access, 1, 1);
            bothModes(check, forKernel, access, 0, 1);
            bothModes(check, Bench.OPEN & ~Bench.VALID, access, 0, 0);
            bothModes(check, Bench.OPEN & ~Bench.VALID | 14, access, 0, 0);
            bothModes(check, 14, access, 1, 1);
        }
    }

    private static void faultOnAccess(Check check) {
        int[] own = {Bench.ON_EXECUTE, Bench.ON_READ, Bench.ON_WRITE};
        int[] faults = {2, 3, 4};
        for (int access = EXECUTE; access <= WRITE; access++) {
            int fault = faults[access + 1];
            bothModes(check, Bench.OPEN | own[access + 1], access, fault, fault);
            bothModes(check, Bench.OPEN | 14 & ~own[access + 1], access, NONE, NONE);
            bothModes(check, Bench.VALID | own[access + 1], access, 1, 1);
        }
    }

    private static void entryOfFaults(Check check) {
        for (int access = EXECUTE; access <= WRITE; access++) {
            long v = access == EXECUTE ? 260 : 508;
            Bench bench = kernel(bench(), access, v);
            check.is("R16", bench.r(16), v);
            check.is("R17", bench.r(17), 1);
            check.is("R18", bench.r(18), access);
            check.is("PC", bench.r(32), FAULTED);
            check.is("the address of the instruction", bench.machine.word(4056), access == EXECUTE ? v : Bench.CODE);
            check.is("entries", bench.entries(), 1);
        }
    }
}
