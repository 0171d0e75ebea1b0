/** The boundary cases of the OPs 10h .. 13h: extremes, wrap-around, traps, shifts by 0 and by 64. */
public final class OperationEdgesTest {
    private static final long MIN = Long.MIN_VALUE;
    private static final long MAX = Long.MAX_VALUE;
    private static final long INT_MIN = Integer.MIN_VALUE;
    private static final long INT_MAX = Integer.MAX_VALUE;
    private static final long UPPER = 0x5A5A5A5A00000000L;
    private static final long BYTES = 0x8877665544332211L;
    private static final long OLD = 0x77777;

    public static void main(String[] args) {
        Sentences document = new Sentences();
        document.holds("Y is register B, or, if bit 12 is 1, bits 20 .. 13", OperationEdgesTest::literals);
        document.holds("the result goes into register C, bits 4 .. 0", OperationEdgesTest::resultRegister);
        sums(document);
        comparisons(document);
        moves(document);
        parts(document);
        shifts(document);
        products(document);
        document.holds("TRAP: ENTRY 1 with 0, 0, 0, behind the instruction (its result is written)",
                OperationEdgesTest::trapEntry);
        document.end();
    }

    private static Bench done(int op, int f, long x, long y) {
        Bench bench = new Bench().put(1, x).put(2, y).put(3, OLD).code(Code.operate(op, 1, 2, f, 3));
        bench.run(1);
        return bench;
    }

    private static String name(int op, int f, long x, long y) {
        return Integer.toHexString(op) + "." + Integer.toHexString(f) + " of " + x + ", " + y;
    }

    private static void is(Check check, int op, int f, long x, long y, long due) {
        Bench bench = done(op, f, x, y);
        check.is(name(op, f, x, y), bench.r(3), due);
        check.is(name(op, f, x, y) + ", entries", bench.entries(), 0);
    }

    private static void traps(Check check, int op, int f, long x, long y, long due) {
        Bench bench = done(op, f, x, y);
        check.is(name(op, f, x, y), bench.r(3), due);
        check.is(name(op, f, x, y) + ", entries", bench.entries(), 1);
    }

    private static void literals(Check check) {
        for (int y = 0; y < 256; y++) {
            Bench bench = new Bench().code(Code.literal(0x10, 31, y, 0x20, 3));
            bench.run(1);
            check.is("literal " + y, bench.r(3), y);
        }
        for (int free = 0; free < 8; free++) {
            Bench bench = new Bench().put(2, 2).code(Code.operate(0x10, 31, 2, 0x20, 3) | free << 13);
            bench.run(1);
            check.is("register B, bits 15 .. 13 are " + free, bench.r(3), 2);
        }
    }

    private static void resultRegister(Check check) {
        for (int c = 0; c < 32; c++) {
            Bench bench = new Bench().code(Code.literal(0x11, 31, 99, 0x20, c));
            bench.run(1);
            check.is("C " + c, bench.r(c), c == 31 ? 0 : 99);
            check.is("PC", bench.r(32), Bench.CODE + 4);
        }
    }

    private static void sums(Sentences document) {
        document.holds("10h: F 00 sx(X + Y), 02 sx(4X + Y), 12h sx(8X + Y), 09 sx(X - Y), 0Bh sx(4X - Y)",
                OperationEdgesTest::shortSums);
        document.holds("20h X + Y, 22h 4X + Y, 32h 8X + Y, 29h X - Y, 2Bh 4X - Y", OperationEdgesTest::wholeSums);
        document.holds("TRAP, if the result is not X + Y or X - Y of whole numbers", OperationEdgesTest::wholeTraps);
        document.holds("(for 40h and 49h of sx(X) and sx(Y))", OperationEdgesTest::shortTraps);
    }

    private static void shortSums(Check check) {
        is(check, 0x10, 0x00, INT_MAX, 1, INT_MIN);
        is(check, 0x10, 0x00, INT_MIN, -1, INT_MAX);
        is(check, 0x10, 0x00, MAX, 1, 0);
        is(check, 0x10, 0x00, UPPER + 1, 2, 3);
        is(check, 0x10, 0x02, 0x20000000, 0, INT_MIN);
        is(check, 0x10, 0x02, 0x1FFFFFFF, 3, INT_MAX);
        is(check, 0x10, 0x12, 0x10000000, 0, INT_MIN);
        is(check, 0x10, 0x12, 0x10000000, -1, INT_MAX);
        is(check, 0x10, 0x12, 0x20000000, 7, 7);
        is(check, 0x10, 0x09, INT_MIN, 1, INT_MAX);
        is(check, 0x10, 0x09, 0, INT_MIN, INT_MIN);
        is(check, 0x10, 0x0B, 0x20000000, 1, INT_MAX);
        is(check, 0x10, 0x0B, 0x40000000, 0, 0);
    }

    private static void wholeSums(Check check) {
        is(check, 0x10, 0x20, MAX, 1, MIN);
        is(check, 0x10, 0x20, MIN, -1, MAX);
        is(check, 0x10, 0x20, INT_MAX, 1, INT_MAX + 1);
        is(check, 0x10, 0x22, MAX, 0, -4);
        is(check, 0x10, 0x22, 1L << 61, -1, MAX);
        is(check, 0x10, 0x32, MAX, 7, -1);
        is(check, 0x10, 0x32, 1L << 60, -1, MAX);
        is(check, 0x10, 0x29, MIN, 1, MAX);
        is(check, 0x10, 0x29, 0, MIN, MIN);
        is(check, 0x10, 0x2B, 1L << 61, 1, MAX);
        is(check, 0x10, 0x2B, 1L << 62, 1, -1);
    }

    private static void wholeTraps(Check check) {
        is(check, 0x10, 0x60, MAX, 0, MAX);
        is(check, 0x10, 0x60, MAX - 1, 1, MAX);
        traps(check, 0x10, 0x60, MAX, 1, MIN);
        is(check, 0x10, 0x60, MIN, MAX, -1);
        is(check, 0x10, 0x60, MAX, MIN, -1);
        is(check, 0x10, 0x60, 1, -2, -1);
        is(check, 0x10, 0x60, -1, 2, 1);
        is(check, 0x10, 0x60, MAX, -1, MAX - 1);
        is(check, 0x10, 0x60, MIN + 1, -1, MIN);
        traps(check, 0x10, 0x60, MIN, -1, MAX);
        traps(check, 0x10, 0x60, MIN, MIN, 0);
        is(check, 0x10, 0x60, INT_MAX, 1, INT_MAX + 1);
        is(check, 0x10, 0x69, MIN, 0, MIN);
        traps(check, 0x10, 0x69, MIN, 1, MAX);
        is(check, 0x10, 0x69, MAX, MAX, 0);
        traps(check, 0x10, 0x69, MAX, -1, MIN);
        traps(check, 0x10, 0x69, 0, MIN, MIN);
        is(check, 0x10, 0x69, -1, MIN, MAX);
        is(check, 0x10, 0x69, MIN, MIN, 0);
        is(check, 0x10, 0x69, 1, 2, -1);
        is(check, 0x10, 0x69, -2, -1, -1);
    }

    private static void shortTraps(Check check) {
        is(check, 0x10, 0x40, INT_MAX, 0, INT_MAX);
        traps(check, 0x10, 0x40, INT_MAX, 1, INT_MIN);
        is(check, 0x10, 0x40, INT_MIN + 1, -1, INT_MIN);
        traps(check, 0x10, 0x40, INT_MIN, -1, INT_MAX);
        is(check, 0x10, 0x40, UPPER + 5, UPPER + 6, 11);
        is(check, 0x10, 0x40, 0x80000000L, 0, INT_MIN);
        is(check, 0x10, 0x40, MAX, MAX, -2);
        traps(check, 0x10, 0x40, 0x80000000L, 0x80000000L, 0);
        is(check, 0x10, 0x49, INT_MIN, 0, INT_MIN);
        traps(check, 0x10, 0x49, INT_MIN, 1, INT_MAX);
        traps(check, 0x10, 0x49, 0, 0x80000000L, INT_MIN);
        is(check, 0x10, 0x49, -1, INT_MIN, INT_MAX);
        is(check, 0x10, 0x49, UPPER + 5, MIN + 6, -1);
    }

    private static void comparisons(Sentences document) {
        document.holds("1 or 0: 2Dh X = Y, 4Dh X < Y, 6Dh X <= Y", OperationEdgesTest::withSign);
        document.holds("and of numbers without sign 1Dh X < Y, 3Dh X <= Y", OperationEdgesTest::withoutSign);
        document.holds("0Fh bit i, 0 .. 7, is 1 if byte i of X is not less than that of Y (without sign)",
                OperationEdgesTest::byteByByte);
    }

    // For X below, equal to and above Y.
    private static void compared(Check check, int f, long[] lower, long[] upper, int below, int equal, int above) {
        for (int i = 0; i < lower.length; i++) {
            is(check, 0x10, f, lower[i], upper[i], below);
            is(check, 0x10, f, lower[i], lower[i], equal);
            is(check, 0x10, f, upper[i], lower[i], above);
        }
    }

    private static void withSign(Check check) {
        long[] lower = {MIN, MIN, -1, 0, MAX - 1, -1, 1};
        long[] upper = {MAX, MIN + 1, 0, 1, MAX, MAX, 0x100000001L};
        compared(check, 0x2D, lower, upper, 0, 1, 0);
        compared(check, 0x4D, lower, upper, 1, 0, 0);
        compared(check, 0x6D, lower, upper, 1, 1, 0);
    }

    private static void withoutSign(Check check) {
        long[] lower = {0, MAX, 0, -2, MIN, 1, 1};
        long[] upper = {1, MIN, -1, -1, MIN + 1, MIN, 0x100000001L};
        compared(check, 0x1D, lower, upper, 1, 0, 0);
        compared(check, 0x3D, lower, upper, 1, 1, 0);
    }

    private static void byteByByte(Check check) {
        is(check, 0x10, 0x0F, 0, 0, 255);
        is(check, 0x10, 0x0F, -1, -1, 255);
        is(check, 0x10, 0x0F, 0, -1, 0);
        is(check, 0x10, 0x0F, -1, 0, 255);
        for (int i = 0; i < 8; i++) {
            is(check, 0x10, 0x0F, 0, 1L << 8 * i, 255 - (1 << i));
            is(check, 0x10, 0x0F, 0x80L << 8 * i, 0x7FL << 8 * i, 255);
            is(check, 0x10, 0x0F, 0x7FL << 8 * i, 0x80L << 8 * i, 255 - (1 << i));
        }
    }

    private static void logic(Check check) {
        int[] fs = {0x00, 0x08, 0x20, 0x28, 0x40, 0x48};
        // For the bits 0, 0; 0, 1; 1, 0; 1, 1 of X, Y, in the highest and the lowest four bits.
        long[] due = {
            0x1000000000000001L, 0x2000000000000002L, 0x7000000000000007L,
            0xBFFFFFFFFFFFFFFBL, 0x6000000000000006L, 0x9FFFFFFFFFFFFFF9L
        };
        for (int i = 0; i < fs.length; i++) {
            is(check, 0x11, fs[i], 0x3000000000000003L, 0x5000000000000005L, due[i]);
        }
    }

    private static void moves(Sentences document) {
        document.holds("11h: 00 X & Y, 08 X & ~Y, 20h X | Y, 28h X | ~Y, 40h X ^ Y, 48h X ^ ~Y",
                OperationEdgesTest::logic);
        document.holds("Y, or no result, unless X is 14h odd, 16h even", OperationEdgesTest::oddAndEven);
        document.holds("24h 0, 26h not 0", OperationEdgesTest::zeroOrNot);
        document.holds("44h below 0, 46h not below 0", OperationEdgesTest::belowOrNot);
        document.holds("64h not above 0, 66h above 0", OperationEdgesTest::aboveOrNot);
    }

    // Of the values, f gives Y for those that are told and other for the rest.
    private static void movesFor(Check check, int f, int other, long... told) {
        long[] values = {0, 1, 2, 3, -1, -2, MIN, MAX, MIN + 1, 0x100000000L, MAX - 1};
        for (long x : values) {
            boolean isTold = false;
            for (long t : told) {
                isTold |= t == x;
            }
            is(check, 0x11, f, x, 5, isTold ? 5 : OLD);
            is(check, 0x11, other, x, 5, isTold ? OLD : 5);
        }
    }

    private static void oddAndEven(Check check) {
        movesFor(check, 0x14, 0x16, 1, 3, -1, MAX, MIN + 1);
    }

    private static void zeroOrNot(Check check) {
        movesFor(check, 0x24, 0x26, 0);
    }

    private static void belowOrNot(Check check) {
        movesFor(check, 0x44, 0x46, -1, -2, MIN, MIN + 1);
    }

    private static void aboveOrNot(Check check) {
        movesFor(check, 0x64, 0x66, 0, -1, -2, MIN, MIN + 1);
    }

    private static void parts(Sentences document) {
        document.holds("12h: n = 8 * (Y & 7)", OperationEdgesTest::onlyThreeBitsOfY);
        document.holds("M has the lowest 8, 16, 32 or 64 bits 1", OperationEdgesTest::lowMasks);
        document.holds("and the lowest 16, 32 or 64 for 50h, 60h, 70h (HIGH)", OperationEdgesTest::highMasks);
        document.holds("LOW, F & 0Fh = 06: X >>> n & M, 0Bh: (X & M) << n, 02: X & ~(M << n).",
                OperationEdgesTest::lowParts);
        document.holds("HIGH, 0Ah: X << (64 - n) & M (n 0: X & M)", OperationEdgesTest::highA);
        document.holds("07: (X & M) >>> (64 - n) (n 0: 0)", OperationEdgesTest::high7);
        document.holds("02: X & ~(M >>> (64 - n)) (n 0: X)", OperationEdgesTest::high2);
    }

    private static void onlyThreeBitsOfY(Check check) {
        is(check, 0x12, 0x06, BYTES, 8, 0x11);
        is(check, 0x12, 0x06, BYTES, 7, 0x88);
        is(check, 0x12, 0x06, BYTES, -1, 0x88);
        is(check, 0x12, 0x06, BYTES, MIN, 0x11);
        is(check, 0x12, 0x0B, BYTES, 15, 0x1100000000000000L);
        is(check, 0x12, 0x72, BYTES, 8, BYTES);
    }

    private static void lowMasks(Check check) {
        is(check, 0x12, 0x06, -1, 0, 0xFF);
        is(check, 0x12, 0x16, -1, 0, 0xFFFF);
        is(check, 0x12, 0x26, -1, 0, 0xFFFFFFFFL);
        is(check, 0x12, 0x36, -1, 0, -1);
        is(check, 0x12, 0x02, -1, 0, -0x100);
        is(check, 0x12, 0x12, -1, 0, -0x10000);
        is(check, 0x12, 0x22, -1, 0, -0x100000000L);
        is(check, 0x12, 0x32, -1, 0, 0);
    }

    private static void highMasks(Check check) {
        is(check, 0x12, 0x5A, -1, 0, 0xFFFF);
        is(check, 0x12, 0x6A, -1, 0, 0xFFFFFFFFL);
        is(check, 0x12, 0x7A, -1, 0, -1);
        for (int low = 0; low < 16; low++) {
            Bench bench = done(0x12, 0x40 + low, BYTES, 1);
            check.is("there is no 4" + Integer.toHexString(low) + "h", bench.entries(), 1);
            check.is("R16", bench.r(16), 4);
        }
    }

    private static void lowParts(Check check) {
        is(check, 0x12, 0x16, BYTES, 7, 0x88);
        is(check, 0x12, 0x26, BYTES, 6, 0x8877);
        is(check, 0x12, 0x36, BYTES, 7, 0x88);
        is(check, 0x12, 0x36, BYTES, 0, BYTES);
        is(check, 0x12, 0x1B, BYTES, 7, 0x1100000000000000L);
        is(check, 0x12, 0x2B, BYTES, 5, 0x3322110000000000L);
        is(check, 0x12, 0x3B, BYTES, 0, BYTES);
        is(check, 0x12, 0x02, BYTES, 7, 0x0077665544332211L);
        is(check, 0x12, 0x12, BYTES, 7, 0x0077665544332211L);
        is(check, 0x12, 0x32, BYTES, 1, 0x11);
    }

    private static void highA(Check check) {
        is(check, 0x12, 0x5A, BYTES, 0, 0x2211);
        is(check, 0x12, 0x6A, BYTES, 0, 0x44332211L);
        is(check, 0x12, 0x7A, BYTES, 0, BYTES);
        is(check, 0x12, 0x5A, BYTES, 7, 0x1100);
        is(check, 0x12, 0x5A, BYTES, 1, 0);
        is(check, 0x12, 0x6A, BYTES, 6, 0x22110000L);
        is(check, 0x12, 0x7A, BYTES, 1, 0x1100000000000000L);
        is(check, 0x12, 0x7A, BYTES, 7, 0x7766554433221100L);
    }

    private static void high7(Check check) {
        is(check, 0x12, 0x57, BYTES, 0, 0);
        is(check, 0x12, 0x67, BYTES, 0, 0);
        is(check, 0x12, 0x77, BYTES, 0, 0);
        is(check, 0x12, 0x57, BYTES, 7, 0x22);
        is(check, 0x12, 0x57, BYTES, 6, 0);
        is(check, 0x12, 0x67, BYTES, 5, 0x44);
        is(check, 0x12, 0x77, BYTES, 1, 0x88);
        is(check, 0x12, 0x77, BYTES, 7, 0x0088776655443322L);
    }

    private static void high2(Check check) {
        is(check, 0x12, 0x52, BYTES, 0, BYTES);
        is(check, 0x12, 0x62, BYTES, 0, BYTES);
        is(check, 0x12, 0x72, BYTES, 0, BYTES);
        is(check, 0x12, 0x52, -1, 7, -0x100);
        is(check, 0x12, 0x52, BYTES, 6, BYTES);
        is(check, 0x12, 0x62, -1, 5, -0x100);
        is(check, 0x12, 0x72, -1, 1, -0x100);
        is(check, 0x12, 0x72, -1, 7, 0xFF00000000000000L);
    }

    private static void shifts(Sentences document) {
        document.holds("And 34h X >>> (Y & 63), 39h X << (Y & 63), 3Ch X >> (Y & 63)",
                OperationEdgesTest::shiftsByAll);
        document.holds("30h, 31h: byte i of X is 0, if bit i of Y is 1 (30h) or 0 (31h)",
                OperationEdgesTest::bytesThatGo);
    }

    private static void shiftsByAll(Check check) {
        long[] by = {0, 1, 63, 64, 65, 127, -1, -64, MIN};
        long[] right = {MIN, 1L << 62, 1, MIN, 1L << 62, 1, 1, MIN, MIN};
        long[] left = {1, 2, MIN, 1, 2, MIN, MIN, 1, 1};
        long[] signed = {MIN, MIN >> 1, -1, MIN, MIN >> 1, -1, -1, MIN, MIN};
        for (int i = 0; i < by.length; i++) {
            is(check, 0x12, 0x34, MIN, by[i], right[i]);
            is(check, 0x12, 0x39, 1, by[i], left[i]);
            is(check, 0x12, 0x3C, MIN, by[i], signed[i]);
        }
    }

    private static void bytesThatGo(Check check) {
        is(check, 0x12, 0x30, BYTES, 0, BYTES);
        is(check, 0x12, 0x31, BYTES, 0, 0);
        is(check, 0x12, 0x30, BYTES, 255, 0);
        is(check, 0x12, 0x31, BYTES, 255, BYTES);
        is(check, 0x12, 0x30, BYTES, 256, BYTES);
        is(check, 0x12, 0x31, BYTES, 256, 0);
        is(check, 0x12, 0x30, BYTES, MIN + 0x81, 0x0077665544332200L);
        is(check, 0x12, 0x31, BYTES, MIN + 0x81, 0x8800000000000011L);
    }

    private static void products(Sentences document) {
        document.holds("13h: 00 sx(X * Y), 20h X * Y", OperationEdgesTest::wrappedProducts);
        document.holds("30h the upper 64 bits of the product of X and Y without sign", OperationEdgesTest::upperHalf);
        document.holds("40h, 60h as 00, 20h, and TRAP if the result is not the product of sx(X) and sx(Y)",
                OperationEdgesTest::shortProductTraps);
        document.holds("or of X and Y", OperationEdgesTest::wholeProductTraps);
    }

    private static void wrappedProducts(Check check) {
        is(check, 0x13, 0x00, 0x10000, 0x8000, INT_MIN);
        is(check, 0x13, 0x00, 0x10000, 0x10000, 0);
        is(check, 0x13, 0x00, INT_MIN, -1, INT_MIN);
        is(check, 0x13, 0x00, UPPER + 3, 5, 15);
        is(check, 0x13, 0x20, MIN, -1, MIN);
        is(check, 0x13, 0x20, 1L << 32, 1L << 32, 0);
        is(check, 0x13, 0x20, MAX, 2, -2);
    }

    private static void upperHalf(Check check) {
        is(check, 0x13, 0x30, -1, -1, -2);
        is(check, 0x13, 0x30, -1, 1, 0);
        is(check, 0x13, 0x30, -1, 2, 1);
        is(check, 0x13, 0x30, MIN, 2, 1);
        is(check, 0x13, 0x30, MIN, MIN, 1L << 62);
        is(check, 0x13, 0x30, MAX, MAX, (1L << 62) - 1);
        is(check, 0x13, 0x30, 1L << 32, 1L << 32, 1);
        is(check, 0x13, 0x30, 0xFFFFFFFFL, 0xFFFFFFFFL, 0);
        is(check, 0x13, 0x30, 0xFFFFFFFFL, -1, 0xFFFFFFFEL);
        is(check, 0x13, 0x30, 0, -1, 0);
    }

    private static void shortProductTraps(Check check) {
        is(check, 0x13, 0x40, INT_MIN, 1, INT_MIN);
        traps(check, 0x13, 0x40, INT_MIN, -1, INT_MIN);
        is(check, 0x13, 0x40, 0x8000, -0x10000, INT_MIN);
        traps(check, 0x13, 0x40, 0x8000, 0x10000, INT_MIN);
        is(check, 0x13, 0x40, 46340, 46340, 46340L * 46340);
        traps(check, 0x13, 0x40, 46341, 46341, (int) (46341L * 46341));
        is(check, 0x13, 0x40, UPPER + 3, UPPER - 5 + 0x100000000L, -15);
        traps(check, 0x13, 0x40, 0x10000, 0x10000, 0);
        traps(check, 0x13, 0x40, 0x80000000L, 0x80000000L, 0);
    }

    private static void wholeProductTraps(Check check) {
        is(check, 0x13, 0x60, MIN, 1, MIN);
        traps(check, 0x13, 0x60, MIN, -1, MIN);
        traps(check, 0x13, 0x60, -1, MIN, MIN);
        is(check, 0x13, 0x60, MAX, -1, MIN + 1);
        is(check, 0x13, 0x60, 1L << 31, -(1L << 32), MIN);
        traps(check, 0x13, 0x60, 1L << 31, 1L << 32, MIN);
        traps(check, 0x13, 0x60, 1L << 32, 1L << 32, 0);
        is(check, 0x13, 0x60, 3037000499L, 3037000499L, 3037000499L * 3037000499L);
        traps(check, 0x13, 0x60, 3037000500L, 3037000500L, 3037000500L * 3037000500L);
        is(check, 0x13, 0x60, -1, -1, 1);
        is(check, 0x13, 0x60, MIN, 0, 0);
        is(check, 0x13, 0x60, 0, MIN, 0);
        is(check, 0x13, 0x60, 0, 5, 0);
        is(check, 0x13, 0x60, 0, -5, 0);
        traps(check, 0x13, 0x60, MIN, MIN, 0);
        is(check, 0x13, 0x60, INT_MIN, INT_MIN, 1L << 62);
    }

    private static void trapEntry(Check check) {
        int[][] trapping = {{0x10, 0x40}, {0x10, 0x60}, {0x13, 0x40}, {0x13, 0x60}};
        for (int[] pair : trapping) {
            long x = pair[1] == 0x40 ? INT_MAX : MAX;
            Bench bench = new Bench().vector(1, 400).put(1, x).put(16, -1).put(17, -1).put(18, -1);
            bench.code(Code.operate(pair[0], 1, 1, pair[1], 3)).run(1);
            check.is("PC", bench.r(32), 400);
            check.is("R16", bench.r(16), 0);
            check.is("R17", bench.r(17), 0);
            check.is("R18", bench.r(18), 0);
            check.is("PC of the next", bench.machine.word(4056), Bench.CODE + 4);
            check.is("the result", bench.r(3), pair[0] == 0x10 ? -2 : 1);
        }
        Bench last = new Bench().put(1, MAX).code(Code.operate(0x10, 1, 1, 0x60, 18));
        last.run(1);
        check.is("the result is written before R18 is stored", last.machine.word(4088), -2);
        check.is("R18 is then 0", last.r(18), 0);
        Bench zero = new Bench().put(1, MAX).code(Code.operate(0x10, 1, 1, 0x60, 31));
        zero.run(1);
        check.is("R31 as C traps too", zero.entries(), 1);
        Bench next = new Bench().vector(1, Bench.CODE + 4).put(1, MAX);
        next.code(Code.operate(0x10, 1, 1, 0x60, 2), Code.operate(0x10, 2, 2, 0x20, 3)).run(2);
        check.is("the instruction behind it does not trap", next.entries(), 1);
    }
}
