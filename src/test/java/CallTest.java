/** Promise 5, CALLS: each number, in both modes. */
public final class CallTest {
    private static final Check CHECK = new Check();
    private static final int[] KERNEL = {0x00, 0x3F, 0x30, 0x31, 0x32, 0x33, 0x34, 0x35, 0x36, 0x37, 0x38, 0x3A};
    private static final int[] BOTH = {0x80, 0x81, 0xAA, 0x83, 0x86};

    public static void main(String[] args) {
        everyNumber();
        bitsThatDoNotCount();
        entriesByCalls();
        halt();
        vectors();
        levels();
        pointersAndValue();
        spaces();
        emptyBuffer();
        comeBackToKernel();
        comeBackToUser();
        comeBackMasksWhatItReads();
        comeBackReadsWholeWords();
        comeBackHalts();
        comeBackReadsAsKernel();
        thereAndBack();
        CHECK.end();
    }

    private static boolean isOneOf(int number, int[] numbers) {
        for (int n : numbers) {
            if (n == number) {
                return true;
            }
        }
        return false;
    }

    private static Bench inUserMode(int code) {
        return new Bench().tables().page(0, 3, Bench.OPEN).vector(3, 400).vector(5, 800)
                .codeAt(768, code).user(0, 0, 0);
    }

    private static void everyNumber() {
        for (int number = 0; number < 256; number++) {
            String name = "call " + Integer.toHexString(number);
            boolean forKernel = isOneOf(number, KERNEL);
            boolean forBoth = isOneOf(number, BOTH);
            Bench user = inUserMode(Code.call(number));
            user.run(1);
            if (!forBoth) {
                CHECK.is(name + " in user mode, PC", user.r(32), 400);
                CHECK.is(name + " in user mode, R16", user.r(16), forKernel ? 3 : 4);
                CHECK.is(name + " in user mode, R17", user.r(17), 0);
                CHECK.is(name + " in user mode, R18", user.r(18), 0);
                CHECK.is(name + " in user mode, PC as it was", user.machine.word(4056), 0);
                CHECK.is(name + " in user mode, PS", user.status(), 0);
                CHECK.is(name + " in user mode, halted", user.halted(), 0);
            }
            Bench kernel = new Bench().vector(3, 400).put(30, Bench.STACK - 48).code(Code.call(number));
            kernel.run(1);
            if (!forBoth && !forKernel) {
                CHECK.is(name + ", PC", kernel.r(32), 400);
                CHECK.is(name + ", R16", kernel.r(16), 4);
                CHECK.is(name + ", PC as it was", kernel.machine.word(4008), Bench.CODE);
            } else if (forKernel) {
                CHECK.is(name + ", entries", kernel.entries(), 0);
            }
        }
    }

    private static void bitsThatDoNotCount() {
        Bench bench = new Bench().code(0x3FFFF00 | 0x36);
        bench.run(1);
        CHECK.is("36h with other bits", bench.r(0), 7);
        CHECK.is("entries", bench.entries(), 0);
    }

    private static void entriesByCalls() {
        int[] numbers = {0x80, 0x81, 0xAA};
        for (int i = 0; i < 3; i++) {
            Bench user = inUserMode(Code.call(numbers[i])).put(16, 9).put(17, 9).put(18, 9);
            enteredWith(user, 4, i);
            Bench kernel = new Bench().vector(3, 400).put(16, 9).put(17, 9).put(18, 9);
            enteredWith(kernel.code(Code.call(numbers[i])), Bench.CODE + 4, i);
        }
        Bench user = inUserMode(Code.call(0x83)).put(16, 6).put(17, 7).put(18, 8);
        user.run(1);
        CHECK.is("83h, PC", user.r(32), 800);
        CHECK.is("83h, R16", user.r(16), 6);
        CHECK.is("83h, R17", user.r(17), 7);
        CHECK.is("83h, R18", user.r(18), 8);
        CHECK.is("83h, PC of the next", user.machine.word(4056), 4);
        Bench nothing = inUserMode(Code.call(0x86));
        nothing.run(1);
        CHECK.is("86h, PC", nothing.r(32), 4);
        CHECK.is("86h, PS", nothing.status(), 8);
        Bench kernel = new Bench().code(Code.call(0x86));
        kernel.run(1);
        CHECK.is("86h, PC", kernel.r(32), Bench.CODE + 4);
        CHECK.is("86h, entries", kernel.entries(), 0);
    }

    private static void enteredWith(Bench bench, long next, int a) {
        bench.run(1);
        CHECK.is("PC", bench.r(32), 400);
        CHECK.is("R16", bench.r(16), a);
        CHECK.is("R17", bench.r(17), 0);
        CHECK.is("R18", bench.r(18), 0);
        CHECK.is("PC of the next", bench.machine.word(4056), next);
    }

    private static void halt() {
        Bench bench = new Bench().code(Code.call(0));
        CHECK.is("steps", bench.run(9), 1);
        CHECK.is("halted", bench.halted(), 1);
        CHECK.is("PC", bench.r(32), Bench.CODE + 4);
        CHECK.is("entries", bench.entries(), 0);
    }

    private static void vectors() {
        for (int k = 0; k < 8; k++) {
            Bench bench = new Bench().put(0, 55).put(16, -1).put(17, 8 * 77 + k).code(Code.call(0x34));
            bench.run(1);
            for (int other = 0; other < 6; other++) {
                CHECK.is("VECTOR " + other + " after " + k, bench.r(40 + other), other == k ? -4 : 0);
            }
            CHECK.is("entries", bench.entries(), 0);
            CHECK.is("PC", bench.r(32), Bench.CODE + 4);
            CHECK.is("R0", bench.r(0), 55);
            CHECK.is("R16", bench.r(16), -1);
        }
    }

    private static void levels() {
        for (int level = 0; level < 16; level++) {
            Bench bench = new Bench().put(16, level - 8).code(Code.call(0x35), Code.call(0x36), Code.call(0x35));
            bench.run(1);
            CHECK.is("R0", bench.r(0), 7);
            CHECK.is("PS", bench.status(), level % 8);
            bench.put(0, -1).run(1);
            CHECK.is("36h", bench.r(0), level % 8);
            bench.put(0, -1).run(1);
            CHECK.is("35h", bench.r(0), level % 8);
        }
    }

    private static void pointersAndValue() {
        Bench bench = new Bench().put(16, -12345);
        bench.code(Code.call(0x37), Code.call(0x38), Code.call(0x31), Code.call(0x3A), Code.call(0x32));
        bench.run(1);
        CHECK.is("KGP", bench.r(35), -12345);
        bench.put(16, Long.MIN_VALUE).run(1);
        CHECK.is("USP", bench.r(34), Long.MIN_VALUE);
        bench.put(16, Long.MAX_VALUE).run(1);
        CHECK.is("VALUE", bench.r(36), Long.MAX_VALUE);
        CHECK.is("R0", bench.r(0), 0);
        bench.run(1);
        CHECK.is("R0 is USP", bench.r(0), Long.MIN_VALUE);
        bench.run(1);
        CHECK.is("R0 is VALUE", bench.r(0), Long.MAX_VALUE);
        CHECK.is("KGP", bench.r(35), -12345);
        CHECK.is("R29", bench.r(29), 0);
    }

    private static void spaces() {
        Bench bench = new Bench().put(16, -1).put(17, -1).put(0, 5).code(Code.call(0x30), Code.call(0x30));
        bench.run(1);
        CHECK.is("R0", bench.r(0), 0);
        CHECK.is("TABLE", bench.r(37), 4064);
        CHECK.is("SPACE", bench.r(38), 255);
        bench.put(16, 4096 + 31 + 32).put(17, 256 + 3).run(1);
        CHECK.is("R0", bench.r(0), 255 * 256 + 4064);
        CHECK.is("TABLE", bench.r(37), 32);
        CHECK.is("SPACE", bench.r(38), 3);
    }

    private static void emptyBuffer() {
        Bench bench = new Bench().tables().page(0, 3, Bench.OPEN).page(1, 4, Bench.OPEN);
        bench.code(Code.memory(0x29, 1, 31, 0), Code.memory(0x29, 1, 31, 256), Code.call(0x33));
        bench.run(2);
        CHECK.is("before", bench.buffered(), 2);
        bench.run(1);
        CHECK.is("after", bench.buffered(), 0);
    }

    private static Bench frame(int place, long status, long pc) {
        Bench bench = new Bench().put(30, Bench.DIRECT + place).put(29, 1).put(16, 1).put(17, 1).put(18, 1);
        bench.set(place, status).set(place + 8, pc).set(place + 16, -29);
        bench.set(place + 24, -16).set(place + 32, -17).set(place + 40, -18);
        return bench.put(33, 3333).call(0x38, 3434, 0);
    }

    private static void registersAreBack(Bench bench) {
        CHECK.is("R29", bench.r(29), -29);
        CHECK.is("R16", bench.r(16), -16);
        CHECK.is("R17", bench.r(17), -17);
        CHECK.is("R18", bench.r(18), -18);
        CHECK.is("the lock", bench.locked(), false);
        CHECK.is("halted", bench.halted(), 0);
        CHECK.is("entries", bench.entries(), 0);
    }

    private static void comeBackToKernel() {
        for (int level = 0; level < 8; level++) {
            Bench bench = frame(1024, level, 4000).put(1, Bench.DIRECT);
            bench.code(Code.memory(0x2B, 2, 1, 0), Code.call(0x3F));
            CHECK.is("steps", bench.run(2), 2);
            registersAreBack(bench);
            CHECK.is("PS", bench.status(), level);
            CHECK.is("PC", bench.r(32), 4000);
            CHECK.is("R30", bench.r(30), Bench.DIRECT + 1072);
            CHECK.is("KSP", bench.r(33), 3333);
            CHECK.is("USP", bench.r(34), 3434);
        }
    }

    private static void comeBackToUser() {
        for (int level = 0; level < 8; level++) {
            Bench bench = frame(4048, 8 + level, 4000).put(1, Bench.DIRECT);
            bench.code(Code.memory(0x2B, 2, 1, 0), Code.call(0x3F));
            CHECK.is("steps", bench.run(2), 2);
            registersAreBack(bench);
            CHECK.is("PS", bench.status(), 8 + level);
            CHECK.is("PC", bench.r(32), 4000);
            CHECK.is("R30", bench.r(30), 3434);
            CHECK.is("KSP", bench.r(33), Bench.DIRECT + 4096);
            CHECK.is("USP", bench.r(34), 3434);
        }
    }

    private static void comeBackMasksWhatItReads() {
        Bench bench = frame(1024, -1, -1).code(Code.call(0x3F));
        bench.run(1);
        CHECK.is("PS", bench.status(), 15);
        CHECK.is("PC", bench.r(32), -4);
        Bench kernel = frame(1024, 0xFFFFFFFFFFFFFFF5L, 4003).code(Code.call(0x3F));
        kernel.run(1);
        CHECK.is("PS", kernel.status(), 5);
        CHECK.is("PC", kernel.r(32), 4000);
    }

    private static void comeBackReadsWholeWords() {
        Bench bench = new Bench().put(30, Bench.DIRECT).code(Code.call(0x3F));
        for (int i = 0; i < 6; i++) {
            bench.set(8 * i, 0x0123456700000000L + 4 * i);
        }
        bench.run(1);
        CHECK.is("from place 0", bench.halted(), 0);
        CHECK.is("PS", bench.status(), 0);
        CHECK.is("PC", bench.r(32), 0x0123456700000004L);
        CHECK.is("R29", bench.r(29), 0x0123456700000008L);
        CHECK.is("R16", bench.r(16), 0x012345670000000CL);
        CHECK.is("R17", bench.r(17), 0x0123456700000010L);
        CHECK.is("R18", bench.r(18), 0x0123456700000014L);
        CHECK.is("R30", bench.r(30), Bench.DIRECT + 48);
    }

    private static void comeBackHalts() {
        long[] stacks = {0, 20000, Bench.DIRECT - 8, Bench.DIRECT + 4056, Bench.DIRECT + 4096, -8,
            Bench.DIRECT + 1025, Bench.DIRECT + 1028, Bench.DIRECT + 1031, Long.MAX_VALUE - 7};
        for (long stack : stacks) {
            Bench bench = frame(1024, 9, 4000).put(30, stack).put(1, Bench.DIRECT).put(29, 9);
            bench.code(Code.memory(0x2B, 2, 1, 0), Code.call(0x3F));
            CHECK.is("steps at " + stack, bench.run(9), 2);
            CHECK.is("halted at " + stack, bench.halted(), 3);
            CHECK.is("R30", bench.r(30), stack);
            CHECK.is("R29", bench.r(29), 9);
            CHECK.is("R16", bench.r(16), 1);
            CHECK.is("PS", bench.status(), 7);
            CHECK.is("PC", bench.r(32), Bench.CODE + 8);
            CHECK.isTrue("the lock", bench.locked());
            CHECK.is("entries", bench.entries(), 0);
        }
        Bench odd = new Bench().tables().page(0, 3, Bench.OPEN).put(30, 4).code(Code.call(0x3F));
        odd.run(1);
        CHECK.is("halted", odd.halted(), 3);
        CHECK.is("nothing is read from an odd stack", odd.buffered(), 0);
    }

    // Its pages are open to the kernel's reads alone, and PS tells user mode.
    private static void comeBackReadsAsKernel() {
        Bench bench = new Bench().tables();
        bench.page(0, 3, Bench.VALID | Bench.KERNEL_READ).page(1, 6, Bench.VALID | Bench.KERNEL_READ);
        bench.set(768 + 248, 8).set(1536, 4000).set(1544, -29).put(30, 248).code(Code.call(0x3F));
        bench.run(1);
        CHECK.is("halted", bench.halted(), 0);
        CHECK.is("PS", bench.status(), 8);
        CHECK.is("PC", bench.r(32), 4000);
        CHECK.is("R29", bench.r(29), -29);
        CHECK.is("KSP", bench.r(33), 296);
        CHECK.is("buffer", bench.buffered(), 2);
        Bench closed = new Bench().tables().page(0, 3, Bench.OPEN).put(30, 248).put(29, 5).code(Code.call(0x3F));
        closed.run(1);
        CHECK.is("the second page is missing", closed.halted(), 3);
        CHECK.is("R29", closed.r(29), 5);
        CHECK.is("PS", closed.status(), 7);
        CHECK.is("buffer", closed.buffered(), 1);
    }

    private static void thereAndBack() {
        Bench bench = new Bench().tables().page(0, 3, Bench.OPEN).vector(5, Bench.CODE).globalPointer(29);
        bench.put(29, 2).put(16, 3).put(17, 4).put(18, 5);
        bench.codeAt(768, Code.call(0x83), Code.NOTHING).user(4, 0, 555).code(Code.call(0x3F));
        CHECK.is("steps", bench.run(2), 2);
        CHECK.is("PS", bench.status(), 12);
        CHECK.is("PC", bench.r(32), 4);
        CHECK.is("R30", bench.r(30), 555);
        CHECK.is("KSP", bench.r(33), Bench.STACK);
        CHECK.is("R29", bench.r(29), 2);
        CHECK.is("R16", bench.r(16), 3);
        CHECK.is("R18", bench.r(18), 5);
        CHECK.is("entries", bench.entries(), 1);
    }
}
