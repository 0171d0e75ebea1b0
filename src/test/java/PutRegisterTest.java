/** Promises 3 and 6: put and register. */
public final class PutRegisterTest {
    private static final Check CHECK = new Check();

    public static void main(String[] args) {
        everyRegister();
        programCounter();
        wrongNumbers();
        registersThatOnlyCallsChange();
        CHECK.end();
    }

    private static void everyRegister() {
        LongMachine machine = new LongMachine();
        for (int r = 0; r <= 33; r++) {
            CHECK.isTrue("put " + r, machine.put(r, -1000L - 4 * r));
        }
        for (int r = 0; r <= 33; r++) {
            CHECK.is("register " + r, machine.register(r), r == 31 ? 0 : -1000L - 4 * r);
        }
        machine.put(7, Long.MIN_VALUE);
        machine.put(33, Long.MAX_VALUE);
        CHECK.is("the lowest long", machine.register(7), Long.MIN_VALUE);
        CHECK.is("KSP keeps its lower bits", machine.register(33), Long.MAX_VALUE);
    }

    private static void programCounter() {
        LongMachine machine = new LongMachine();
        long[] values = {0, 1, 2, 3, 4, 7, -1, -4, Long.MAX_VALUE, Long.MIN_VALUE};
        long[] due = {0, 0, 0, 0, 4, 4, -4, -4, Long.MAX_VALUE - 3, Long.MIN_VALUE};
        for (int i = 0; i < values.length; i++) {
            CHECK.isTrue("put 32", machine.put(32, values[i]));
            CHECK.is("PC " + values[i], machine.register(32), due[i]);
        }
    }

    private static void wrongNumbers() {
        LongMachine machine = new LongMachine();
        int[] notPut = {-1, -33, 34, 35, 36, 37, 38, 39, 40, 45, 46, 64, Integer.MAX_VALUE, Integer.MIN_VALUE};
        for (int r : notPut) {
            CHECK.is("put " + r, machine.put(r, 9), false);
        }
        for (int r = 0; r <= 45; r++) {
            CHECK.is("register " + r, machine.register(r), r == 39 ? -1 : 0);
        }
        int[] unknown = {-1, -32, 39, 46, 47, 64, 128, Integer.MAX_VALUE, Integer.MIN_VALUE};
        for (int r : unknown) {
            CHECK.is("register " + r, machine.register(r), -1);
        }
    }

    private static void registersThatOnlyCallsChange() {
        Bench bench = new Bench();
        bench.call(0x38, -7, 0).call(0x37, -8, 0).call(0x31, -9, 0).call(0x30, -1, -1);
        for (int k = 0; k < 6; k++) {
            bench.call(0x34, 1000 + 4 * k, k);
        }
        CHECK.is("USP", bench.r(34), -7);
        CHECK.is("KGP", bench.r(35), -8);
        CHECK.is("VALUE", bench.r(36), -9);
        CHECK.is("TABLE", bench.r(37), 4064);
        CHECK.is("SPACE", bench.r(38), 255);
        for (int k = 0; k < 6; k++) {
            CHECK.is("VECTOR " + k, bench.r(40 + k), 1000 + 4 * k);
        }
        CHECK.is("39", bench.r(39), -1);
        CHECK.is("46", bench.r(46), -1);
    }
}
