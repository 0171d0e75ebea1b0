/** The boundary cases of the BRANCHES, and of the OPs and Fs that there are not. */
public final class BranchEdgesTest {
    private static final long MIN = Long.MIN_VALUE;
    private static final long MAX = Long.MAX_VALUE;

    public static void main(String[] args) {
        Sentences document = new Sentences();
        document.holds("PC becomes PC + 4 * E", BranchEdgesTest::nearestAndFarthest);
        document.holds("30h, 34h always (A becomes the PC before it)", BranchEdgesTest::always);
        document.holds("38h even", check -> taken(check, 0x38, 0, 2, -2, MIN, 1L << 32, MAX - 1));
        document.holds("39h 0", check -> taken(check, 0x39, 0));
        document.holds("3Ah below 0", check -> taken(check, 0x3A, -1, -2, MIN, MIN + 1));
        document.holds("3Bh not above 0", check -> taken(check, 0x3B, 0, -1, -2, MIN, MIN + 1));
        document.holds("3Ch odd", check -> taken(check, 0x3C, 1, -1, MAX, MIN + 1));
        document.holds("3Dh not 0", check -> taken(check, 0x3D, 1, 2, -1, -2, MIN, MIN + 1, 1L << 32, MAX - 1, MAX));
        document.holds("3Eh not below 0", check -> taken(check, 0x3E, 0, 1, 2, 1L << 32, MAX - 1, MAX));
        document.holds("3Fh above 0", check -> taken(check, 0x3F, 1, 2, 1L << 32, MAX - 1, MAX));
        document.holds("1Ah: A becomes PC, PC register B (read before) without its lower two bits.",
                BranchEdgesTest::jumps);
        document.holds("18h: nothing.", BranchEdgesTest::nothing);
        document.holds("00: a CALL of number bits 7 .. 0.", BranchEdgesTest::callBits);
        document.holds("All other OPs", BranchEdgesTest::otherOps);
        document.holds("and Fs: ENTRY 3 with 4, 0, 0.", BranchEdgesTest::otherFs);
        document.end();
    }

    private static void nearestAndFarthest(Check check) {
        int[] distances = {0, 1, -1, -2, 0xFFFFF, -0x100000};
        for (int e : distances) {
            for (int op : new int[] {0x30, 0x34, 0x38, 0x39, 0x3B, 0x3E}) {
                Bench bench = new Bench().code(Code.branch(op, 31, e));
                bench.run(1);
                check.is("by " + e, bench.r(32), Bench.CODE + 4 + 4L * e);
                check.is("entries", bench.entries(), 0);
            }
        }
        Bench first = new Bench().codeAt(0, Code.branch(0x30, 31, -0x100000)).put(32, Bench.DIRECT);
        first.run(1);
        check.is("PC comes below 0", first.r(32), Bench.DIRECT + 4 - 4194304);
    }

    private static void always(Check check) {
        for (int op = 0x30; op <= 0x34; op += 4) {
            for (long x : new long[] {0, 1, -1, MIN}) {
                Bench bench = new Bench().put(5, x).code(Code.branch(op, 5, -3));
                bench.run(1);
                check.is("PC", bench.r(32), Bench.CODE - 8);
                check.is("A", bench.r(5), Bench.CODE + 4);
            }
            Bench zero = new Bench().code(Code.branch(op, 31, 2));
            zero.run(1);
            check.is("R31", zero.r(31), 0);
        }
    }

    // Of the values, those that are told are branched on, and no other.
    private static void taken(Check check, int op, long... told) {
        long[] values = {0, 1, 2, -1, -2, MIN, MIN + 1, 1L << 32, MAX - 1, MAX};
        for (long x : values) {
            boolean isTold = false;
            for (long t : told) {
                isTold |= t == x;
            }
            Bench bench = new Bench().put(5, x).code(Code.branch(op, 5, 7));
            bench.run(1);
            check.is("PC for " + x, bench.r(32), Bench.CODE + (isTold ? 32 : 4));
            check.is("A stays", bench.r(5), x);
        }
    }

    private static void jumps(Check check) {
        for (int low = 0; low < 4; low++) {
            Bench bench = new Bench().put(2, 4000 + low).code(Code.jump(3, 2));
            bench.run(1);
            check.is("PC", bench.r(32), 4000);
            check.is("A", bench.r(3), Bench.CODE + 4);
            check.is("B", bench.r(2), 4000 + low);
        }
        Bench same = new Bench().put(2, -1).code(Code.jump(2, 2));
        same.run(1);
        check.is("B is read before", same.r(32), -4);
        check.is("A", same.r(2), Bench.CODE + 4);
        Bench zero = new Bench().code(Code.jump(31, 31) | 0xFFFF);
        zero.run(1);
        check.is("to R31, whatever D is", zero.r(32), 0);
        check.is("R31", zero.r(31), 0);
    }

    private static void nothing(Check check) {
        for (int rest : new int[] {0, 1, 0xFFFF, 0x3FFFFFF}) {
            Bench bench = new Bench().code(Code.NOTHING | rest);
            Bench untouched = new Bench().code(Code.NOTHING | rest).put(32, Bench.CODE + 4);
            check.is("steps", bench.run(1), 1);
            check.isTrue("only PC has grown", bench.seen().equals(untouched.seen()));
        }
    }

    private static void callBits(Check check) {
        for (int bit = 8; bit < 26; bit++) {
            Bench bench = new Bench().code(0x36 | 1 << bit);
            bench.run(1);
            check.is("36h and bit " + bit, bench.r(0), 7);
            check.is("entries", bench.entries(), 0);
        }
        Bench halts = new Bench().code(0x3FFFF00);
        halts.run(1);
        check.is("number 0 and all other bits", halts.halted(), 1);
    }

    private static void refused(Check check, Bench bench, String name) {
        bench.put(16, -1).put(17, -1).put(18, -1).put(3, 33);
        int level = bench.status() & 7;
        long at = bench.r(32);
        bench.run(1);
        check.is(name + ", PC", bench.r(32), 400);
        check.is(name + ", R16", bench.r(16), 4);
        check.is(name + ", R17", bench.r(17), 0);
        check.is(name + ", R18", bench.r(18), 0);
        check.is(name + ", the address of the instruction", bench.machine.word(4056), at);
        check.is(name + ", no result", bench.r(3), 33);
        check.is(name + ", PS", bench.status(), level);
    }

    private static void refusedInBothModes(Check check, int code) {
        String name = Integer.toHexString(code) + "h";
        refused(check, new Bench().vector(3, 400).code(code), name);
        refused(check, new Bench().vector(3, 400).userCode(code), name + " in USER mode");
    }

    private static void otherOps(Check check) {
        int[] others = {
            0x01, 0x02, 0x03, 0x04, 0x05, 0x06, 0x07, 0x0A, 0x0C, 0x0D, 0x0E, 0x14, 0x15, 0x16, 0x17, 0x19,
            0x1B, 0x1C, 0x1D, 0x1E, 0x1F, 0x20, 0x21, 0x22, 0x23, 0x24, 0x25, 0x26, 0x27, 0x31, 0x32, 0x33,
            0x35, 0x36, 0x37
        };
        for (int op : others) {
            refusedInBothModes(check, op << 26);
            refusedInBothModes(check, op << 26 | 0x3FFFFFF);
        }
    }

    private static void otherFs(Check check) {
        String[] known = {
            " 00 02 12 09 0b 20 22 32 29 2b 40 49 60 69 2d 4d 6d 1d 3d 0f ",
            " 00 08 20 28 40 48 14 16 24 26 44 46 64 66 ",
            " 06 16 26 36 0b 1b 2b 3b 02 12 22 32 5a 6a 7a 57 67 77 52 62 72 34 39 3c 30 31 ",
            " 00 20 30 40 60 "
        };
        int others = 0;
        for (int op = 0x10; op <= 0x13; op++) {
            for (int f = 0; f < 128; f++) {
                if (!known[op - 0x10].contains(String.format(" %02x ", f))) {
                    refusedInBothModes(check, Code.operate(op, 1, 2, f, 3));
                    refusedInBothModes(check, Code.literal(op, 1, 255, f, 3));
                    others++;
                }
            }
        }
        check.is("other Fs", others, 4 * 128 - 20 - 14 - 26 - 5);
    }
}
