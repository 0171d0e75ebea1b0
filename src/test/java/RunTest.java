/** Promise 5: run. */
public final class RunTest {
    private static final Check CHECK = new Check();

    public static void main(String[] args) {
        asManyAsAsked();
        wrongNumbers();
        untilItIsHalted();
        stepsThatEnterCount();
        CHECK.end();
    }

    private static Bench endless() {
        return new Bench().code(Code.memory(0x08, 1, 1, 1), Code.branch(0x30, 31, -2));
    }

    private static void asManyAsAsked() {
        for (int n = 1; n <= 31; n++) {
            Bench bench = endless();
            CHECK.is("run " + n, bench.run(n), n);
            CHECK.is("R1 after " + n, bench.r(1), (n + 1) / 2);
            CHECK.is("PC after " + n, bench.r(32), Bench.CODE + 4 * (n % 2));
        }
    }

    private static void wrongNumbers() {
        int[] wrong = {0, -1, 32, 33, 64, Integer.MAX_VALUE, Integer.MIN_VALUE};
        Bench bench = endless();
        for (int n : wrong) {
            CHECK.is("run " + n, bench.run(n), 0);
        }
        CHECK.is("R1", bench.r(1), 0);
        CHECK.is("PC", bench.r(32), Bench.CODE);
    }

    private static void untilItIsHalted() {
        Bench bench = new Bench().code(Code.memory(0x08, 1, 1, 1), Code.memory(0x08, 1, 1, 1), Code.call(0));
        CHECK.is("that which halts it counts", bench.run(31), 3);
        CHECK.is("R1", bench.r(1), 2);
        CHECK.is("halted", bench.halted(), 1);
        CHECK.is("PC is behind it", bench.r(32), Bench.CODE + 12);
        CHECK.is("run 1", bench.run(1), 0);
        CHECK.is("run 31", bench.run(31), 0);
        bench.put(32, Bench.CODE);
        CHECK.is("it stays halted", bench.run(1), 0);
        CHECK.is("R1", bench.r(1), 2);

        Bench exact = new Bench().code(Code.NOTHING, Code.call(0));
        CHECK.is("the last step halts it", exact.run(2), 2);
        CHECK.is("halted", exact.halted(), 1);
    }

    private static void stepsThatEnterCount() {
        Bench bench = new Bench().vector(3, Bench.CODE).code(Code.call(0x80));
        CHECK.is("run 31", bench.run(31), 31);
        CHECK.is("entries", bench.entries(), 31);
        CHECK.is("R30", bench.r(30), Bench.STACK - 31 * 48);
    }
}
