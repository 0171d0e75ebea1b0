/** Promise 8: state. */
public final class StateTest {
    private static final Check CHECK = new Check();

    public static void main(String[] args) {
        status();
        lock();
        halted();
        buffer();
        entries();
        unknown();
        CHECK.end();
    }

    private static void status() {
        for (int level = 0; level < 8; level++) {
            Bench bench = new Bench().level(level);
            CHECK.is("kernel, level " + level, bench.machine.state(0), level);
            bench.user(level, 0, 0);
            CHECK.is("user, level " + level, bench.machine.state(0), 8 + level);
        }
    }

    private static void lock() {
        Bench bench = new Bench().put(1, Bench.DIRECT);
        bench.code(Code.memory(0x2B, 2, 1, 0), Code.memory(0x2F, 2, 1, 0));
        CHECK.is("at first", bench.machine.state(1), 0);
        bench.run(1);
        CHECK.is("after 2Bh", bench.machine.state(1), 1);
        bench.run(1);
        CHECK.is("after 2Fh", bench.machine.state(1), 0);
    }

    private static void halted() {
        Bench call = new Bench().code(Code.call(0));
        call.run(1);
        CHECK.is("by a call", call.machine.state(2), 1);
        Bench entry = new Bench().code(Code.call(0x83)).put(30, 0);
        entry.run(1);
        CHECK.is("by an entry", entry.machine.state(2), 2);
        Bench comeBack = new Bench().code(Code.call(0x3F)).put(30, 0);
        comeBack.run(1);
        CHECK.is("by a return", comeBack.machine.state(2), 3);
    }

    private static void buffer() {
        Bench bench = new Bench().tables();
        for (int page = 0; page < 4; page++) {
            bench.page(page, page, Bench.OPEN);
        }
        for (int page = 0; page < 6; page++) {
            CHECK.is("before page " + page, bench.machine.state(3), Math.min(page, 4));
            bench.code(Code.memory(0x29, 2, 31, 256 * page)).put(32, Bench.CODE);
            bench.run(1);
        }
        CHECK.is("it has 4", bench.machine.state(3), 4);
        bench.call(0x33, 0, 0);
        CHECK.is("it is empty", bench.machine.state(3), 0);
    }

    private static void entries() {
        Bench bench = new Bench().vector(5, Bench.CODE).code(Code.call(0x83)).put(30, Bench.DIRECT + 248);
        for (int i = 0; i < 5; i++) {
            CHECK.is("entries", bench.machine.state(5), i);
            bench.run(1);
        }
        CHECK.is("entries", bench.machine.state(5), 5);
        CHECK.is("steps", bench.run(2), 1);
        CHECK.is("that which halted it does not count", bench.machine.state(5), 5);
        CHECK.is("halted", bench.machine.state(2), 2);
    }

    private static void unknown() {
        LongMachine machine = new LongMachine();
        int[] wrong = {-1, 6, 7, 8, 32, 256, Integer.MAX_VALUE, Integer.MIN_VALUE};
        for (int what : wrong) {
            CHECK.is("state " + what, machine.state(what), -1);
        }
    }
}
