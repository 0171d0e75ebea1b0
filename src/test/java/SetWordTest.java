/** Promises 2 and 7: set and word. */
public final class SetWordTest {
    private static final Check CHECK = new Check();
    private static final int[] WRONG = {
        -1, -8, 1, 2, 3, 4, 5, 6, 7, 9, 12, 4084, 4089, 4095, 4096, 4104, 8192, 65536,
        Integer.MAX_VALUE, Integer.MIN_VALUE, Integer.MIN_VALUE + 8, 0x7FFFFFF8
    };

    public static void main(String[] args) {
        wholeMemory(0);
        wholeMemory(2048);
        extremes();
        wrongAddresses();
        lowerByteFirst();
        haltedMachineIsSetToo();
        CHECK.end();
    }

    private static void wholeMemory(int start) {
        LongMachine machine = new LongMachine();
        for (int i = 0; i < 128; i++) {
            CHECK.isTrue("set " + (start + 16 * i), machine.set(start + 16 * i, 1000003L * (i + 1)));
        }
        for (int i = 0; i < 128; i++) {
            CHECK.is("word " + (start + 16 * i), machine.word(start + 16 * i), 1000003L * (i + 1));
            CHECK.is("word between, " + (start + 16 * i + 8), machine.word(start + 16 * i + 8), 0);
        }
    }

    private static void extremes() {
        LongMachine machine = new LongMachine();
        long[] values = {Long.MIN_VALUE, Long.MAX_VALUE, -1, 0, 0x0123456789ABCDEFL};
        for (long v : values) {
            CHECK.isTrue("set 0", machine.set(0, v));
            CHECK.isTrue("set 4088", machine.set(4088, ~v));
            CHECK.is("word 0", machine.word(0), v);
            CHECK.is("word 4088", machine.word(4088), ~v);
        }
    }

    private static void wrongAddresses() {
        LongMachine machine = new LongMachine();
        machine.set(0, 77);
        machine.set(8, 78);
        machine.set(4088, 79);
        for (int address : WRONG) {
            CHECK.is("set " + address, machine.set(address, 5), false);
            CHECK.is("word " + address, machine.word(address), -1);
        }
        CHECK.is("word 0", machine.word(0), 77);
        CHECK.is("word 8", machine.word(8), 78);
        CHECK.is("word 4088", machine.word(4088), 79);
    }

    private static void lowerByteFirst() {
        Bench bench = new Bench().set(1024, 0x1122334455667788L).put(1, Bench.DIRECT + 1024);
        bench.code(Code.memory(0x28, 2, 1, 0), Code.memory(0x28, 3, 1, 4));
        bench.run(2);
        CHECK.is("the lower half is first", bench.r(2), 0x55667788);
        CHECK.is("the upper half is second", bench.r(3), 0x11223344);
    }

    private static void haltedMachineIsSetToo() {
        Bench bench = new Bench().code(Code.call(0));
        bench.run(1);
        CHECK.isTrue("set", bench.machine.set(16, 9));
        CHECK.is("word", bench.machine.word(16), 9);
        CHECK.is("halted", bench.halted(), 1);
    }
}
