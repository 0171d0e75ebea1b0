/** The boundary cases of an ENTRY: where its longs may be stored, what is stored, and how it halts. */
public final class EntryEdgesTest {
    private static final int CALL = Code.call(0x83);
    private static final int FRAME = 4048;

    public static void main(String[] args) {
        Sentences document = new Sentences();
        document.holds("in USER mode R30 goes into USP, and R30 becomes KSP", EntryEdgesTest::stacks);
        document.holds("the mode is KERNEL; then six longs are stored by WRITES", EntryEdgesTest::writesAsKernel);
        document.holds("at R30 - 48 and on", EntryEdgesTest::lowestAndHighestStack);
        document.holds("PS as it was", EntryEdgesTest::statusAsItWas);
        document.holds("PC (the address of the instruction for 2, 3, 4", EntryEdgesTest::addressOfTheInstruction);
        document.holds("unless it is said otherwise", EntryEdgesTest::saidOtherwise);
        document.holds("else of the next one", EntryEdgesTest::addressOfTheNext);
        document.holds("for 0 of that which would come)", EntryEdgesTest::addressThatWouldCome);
        document.holds("R29, R16, R17, R18; R30 falls by 48.", EntryEdgesTest::registersAsTheyWere);
        document.holds("If a WRITE faults", EntryEdgesTest::eachWriteMayFault);
        document.holds("or R30 can't be divided by 8", EntryEdgesTest::oddStacks);
        document.holds("the machine is HALTED with 2, nothing else is done.", EntryEdgesTest::nothingElse);
        document.holds("Then R16, R17, R18 become a, b, c, R29 KGP, the lock is off, PC VECTOR k (0 .. 5).",
                EntryEdgesTest::thenRegisters);
        document.holds("(The level stays but for interrupts.)", EntryEdgesTest::levelStays);
        document.end();
    }

    private static Bench bench() {
        Bench bench = new Bench().globalPointer(Long.MIN_VALUE);
        for (int k = 0; k < 6; k++) {
            bench.vector(k, 400 + 16 * k);
        }
        return bench.put(29, -29).put(16, -16).put(17, -17).put(18, -18);
    }

    /** A machine before the step that makes ENTRY k; the lock is on. */
    private static Bench before(int k, int level) {
        int[] codes = {
            Code.NOTHING, Code.operate(0x10, 1, 1, 0x60, 3), Code.memory(0x29, 3, 2, 0), 0x07 << 26,
            Code.memory(0x29, 3, 2, 1), CALL
        };
        Bench bench = bench().level(level).put(1, Long.MAX_VALUE).put(2, 16384).put(5, Bench.DIRECT);
        bench.codeAt(252, Code.memory(0x2B, 4, 5, 0), codes[k]).put(32, Bench.CODE - 4).run(1);
        if (k == 0) {
            bench.machine.interrupt(7, 9);
        }
        return bench;
    }

    private static Bench before(int k) {
        return before(k, 6);
    }

    private static void stacks(Check check) {
        Bench user = bench().userCode(CALL).put(30, -5).put(33, Bench.DIRECT + 2048);
        user.run(1);
        check.is("USP", user.r(34), -5);
        check.is("R30", user.r(30), Bench.DIRECT + 2000);
        check.is("KSP", user.r(33), Bench.DIRECT + 2048);
        check.is("halted", user.halted(), 0);
        Bench kernel = bench().code(CALL).put(33, -5).call(0x38, -6, 0);
        kernel.run(1);
        check.is("in KERNEL mode USP stays", kernel.r(34), -6);
        check.is("in KERNEL mode KSP stays", kernel.r(33), -5);
        check.is("in KERNEL mode R30 falls", kernel.r(30), Bench.STACK - 48);
    }

    private static void writesAsKernel(Check check) {
        int kernelOnly = Bench.VALID | Bench.KERNEL_WRITE;
        int userOnly = Bench.VALID | Bench.USER_WRITE | Bench.USER_READ | Bench.KERNEL_READ;
        for (int bits : new int[] {kernelOnly, userOnly}) {
            Bench user = bench().userCode(CALL).page(1, 4, bits).put(33, 512);
            user.run(1);
            check.is("from USER mode", user.halted(), bits == kernelOnly ? 0 : 2);
            check.is("the mode", user.status(), 0);
            Bench kernel = bench().tables().page(1, 4, bits).put(30, 512).code(CALL);
            kernel.run(1);
            check.is("from KERNEL mode", kernel.halted(), bits == kernelOnly ? 0 : 2);
        }
        Bench onWrite = bench().tables().page(1, 4, kernelOnly | Bench.ON_WRITE).put(30, 512).code(CALL);
        onWrite.run(1);
        check.is("bit 2 makes a WRITE fault", onWrite.halted(), 2);
        Bench onRead = bench().tables().page(1, 4, kernelOnly | Bench.ON_READ).put(30, 512).code(CALL);
        onRead.run(1);
        check.is("bit 1 does not", onRead.halted(), 0);
        check.is("the page came into the buffer", onRead.buffered(), 1);
    }

    private static void lowestAndHighestStack(Check check) {
        for (int place : new int[] {0, FRAME}) {
            Bench bench = bench().code(CALL).put(30, Bench.DIRECT + place + 48);
            bench.run(1);
            check.is("halted", bench.halted(), 0);
            frameIs(check, bench, place, 7, Bench.CODE + 4);
        }
        Bench mapped = bench().tables().page(0, 4, Bench.OPEN).page(1, 6, Bench.OPEN).put(30, 256 + 24).code(CALL);
        mapped.run(1);
        check.is("PS at the end of a page", mapped.machine.word(1024 + 232), 7);
        check.is("PC", mapped.machine.word(1024 + 240), Bench.CODE + 4);
        check.is("R29, the last of the page", mapped.machine.word(1024 + 248), -29);
        check.is("R16 in another page", mapped.machine.word(1536), -16);
        check.is("R18", mapped.machine.word(1552), -18);
        Bench zero = bench().tables().page(0, 4, Bench.OPEN).put(30, 48).code(CALL);
        zero.run(1);
        check.is("from address 0 on", zero.machine.word(1024), 7);
        check.is("R30", zero.r(30), 0);
    }

    private static void frameIs(Check check, Bench bench, int place, long status, long pc) {
        long[] due = {status, pc, -29, -16, -17, -18};
        for (int i = 0; i < 6; i++) {
            check.is("stored " + i, bench.machine.word(place + 8 * i), due[i]);
        }
    }

    private static void statusAsItWas(Check check) {
        for (int level = 0; level <= 7; level++) {
            Bench kernel = bench().level(level).code(CALL);
            kernel.run(1);
            check.is("KERNEL", kernel.machine.word(FRAME), level);
            Bench user = bench().userCodeAtLevel(level, CALL);
            user.run(1);
            check.is("USER", user.machine.word(FRAME), 8 + level);
        }
        Bench interrupt = before(0);
        interrupt.run(1);
        check.is("not the level of the interrupt", interrupt.machine.word(FRAME), 6);
    }

    private static void addressOfTheInstruction(Check check) {
        for (int k = 2; k <= 4; k++) {
            Bench bench = before(k);
            bench.run(1);
            frameIs(check, bench, FRAME, 6, Bench.CODE);
            check.is("vector " + k, bench.r(32), 400 + 16 * k);
        }
        Bench fetch = bench().put(32, -4);
        fetch.run(1);
        frameIs(check, fetch, FRAME, 7, -4);
    }

    // 80h, 81h and AAh make ENTRY 3 too; what stands behind them is stored.
    private static void saidOtherwise(Check check) {
        for (int number : new int[] {0x80, 0x81, 0xAA}) {
            Bench bench = bench().code(Code.call(number));
            bench.run(1);
            frameIs(check, bench, FRAME, 7, Bench.CODE + 4);
            check.is("vector 3", bench.r(32), 448);
        }
        Bench unknown = bench().code(Code.call(0x82));
        unknown.run(1);
        frameIs(check, unknown, FRAME, 7, Bench.CODE);
    }

    private static void addressOfTheNext(Check check) {
        for (int k = 1; k <= 5; k += 4) {
            Bench bench = before(k);
            bench.run(1);
            frameIs(check, bench, FRAME, 6, Bench.CODE + 4);
            check.is("vector " + k, bench.r(32), 400 + 16 * k);
        }
        Bench last = bench().codeAt(4092, CALL).put(32, Bench.DIRECT + 4092).put(30, Bench.DIRECT + 2048);
        last.run(1);
        check.is("behind the memory", last.machine.word(2008), Bench.DIRECT + 4096);
    }

    private static void addressThatWouldCome(Check check) {
        Bench bench = before(0);
        bench.run(1);
        frameIs(check, bench, FRAME, 6, Bench.CODE);
        Bench nowhere = before(0).put(32, Long.MIN_VALUE);
        nowhere.run(1);
        frameIs(check, nowhere, FRAME, 6, Long.MIN_VALUE);
        check.is("entries", nowhere.entries(), 1);
        Bench jumped = bench().level(0).put(2, 4000).code(Code.jump(3, 2));
        jumped.run(1);
        jumped.machine.interrupt(1, 1);
        jumped.run(1);
        check.is("behind a jump", jumped.machine.word(FRAME + 8), 4000);
    }

    private static void registersAsTheyWere(Check check) {
        for (int k = 0; k <= 5; k++) {
            Bench bench = before(k).put(29, Long.MIN_VALUE).put(16, Long.MAX_VALUE).put(17, -1).put(18, 0x100000001L);
            bench.run(1);
            check.is("R29", bench.machine.word(FRAME + 16), Long.MIN_VALUE);
            check.is("R16", bench.machine.word(FRAME + 24), Long.MAX_VALUE);
            check.is("R17", bench.machine.word(FRAME + 32), -1);
            check.is("R18", bench.machine.word(FRAME + 40), 0x100000001L);
            check.is("R30", bench.r(30), Bench.STACK - 48);
        }
    }

    // Page 0 takes so many of the six longs, and page 1 none.
    private static void eachWriteMayFault(Check check) {
        for (int fit = 0; fit <= 6; fit++) {
            Bench bench = bench().tables().page(0, 4, Bench.OPEN).put(30, 256 - 8 * fit + 48).code(CALL);
            bench.run(1);
            check.is(fit + " fit", bench.halted(), fit == 6 ? 0 : 2);
            check.is("entries", bench.entries(), fit == 6 ? 1 : 0);
        }
        long[] stacks = {0, 8, 40, 16384 + 8, 32768, 32768 + 40, 36864 + 8, 65536, Long.MIN_VALUE, -8};
        for (long stack : stacks) {
            Bench bench = bench().tables().page(0, 4, Bench.OPEN).put(30, stack).code(CALL);
            bench.run(1);
            check.is("R30 " + stack, bench.halted(), 2);
        }
    }

    private static void oddStacks(Check check) {
        for (int low = 1; low < 8; low++) {
            Bench kernel = bench().code(CALL).put(30, Bench.DIRECT + 2048 + low);
            kernel.run(1);
            check.is("KERNEL, " + low, kernel.halted(), 2);
            check.is("nothing is stored", kernel.machine.word(2000), 0);
            Bench user = bench().userCode(CALL).put(33, Bench.DIRECT + 2048 + low);
            user.run(1);
            check.is("USER, " + low, user.halted(), 2);
            Bench odd = bench().userCode(CALL).put(30, 2048 + low);
            odd.run(1);
            check.is("the user's R30 need not be", odd.halted(), 0);
            check.is("USP", odd.r(34), 2048 + low);
        }
    }

    private static void nothingElse(Check check) {
        for (int k = 0; k <= 5; k++) {
            for (long stack : new long[] {0, Bench.DIRECT + 2052}) {
                Bench bench = before(k).put(30, stack);
                check.is("steps", bench.run(31), 1);
                check.is("halted", bench.halted(), 2);
                check.is("R30", bench.r(30), stack);
                check.is("R29", bench.r(29), -29);
                check.is("R16", bench.r(16), -16);
                check.is("R17", bench.r(17), -17);
                check.is("R18", bench.r(18), -18);
                check.is("PS", bench.status(), 6);
                check.isTrue("the lock", bench.locked());
                check.is("PC", bench.r(32), Bench.CODE + (k == 0 ? 0 : 4));
                check.is("entries", bench.entries(), 0);
            }
        }
    }

    private static void thenRegisters(Check check) {
        long[][] due = {{9, 0, 0}, {0, 0, 0}, {16384, 1, 0}, {4, 0, 0}, {16385, 0x29, 3}, {-16, -17, -18}};
        for (int k = 0; k <= 5; k++) {
            Bench bench = before(k);
            check.isTrue("the lock is on before", bench.locked());
            bench.run(1);
            for (int i = 0; i < 3; i++) {
                check.is("ENTRY " + k + ", R" + (16 + i), bench.r(16 + i), due[k][i]);
            }
            check.is("R29", bench.r(29), Long.MIN_VALUE);
            check.is("PC", bench.r(32), 400 + 16 * k);
            check.is("the lock", bench.locked(), false);
            check.is("entries", bench.entries(), 1);
        }
    }

    private static void levelStays(Check check) {
        for (int k = 0; k <= 5; k++) {
            for (int level = 0; level <= 6; level++) {
                Bench bench = before(k, level);
                bench.run(1);
                check.is("ENTRY " + k + " at level " + level, bench.status(), k == 0 ? 7 : level);
            }
        }
        Bench user = bench().userCodeAtLevel(5, CALL);
        user.run(1);
        check.is("from USER mode", user.status(), 5);
    }
}
