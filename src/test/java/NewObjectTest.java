/** Promise 1: all is 0, the level 7, the buffer empty, and the machine is not halted. */
public final class NewObjectTest {
    private static final Check CHECK = new Check();

    public static void main(String[] args) {
        LongMachine machine = new LongMachine();
        for (int r = 0; r <= 38; r++) {
            CHECK.is("register " + r, machine.register(r), 0);
        }
        for (int r = 40; r <= 45; r++) {
            CHECK.is("vector " + (r - 40), machine.register(r), 0);
        }
        CHECK.is("PS", machine.state(0), 7);
        for (int what = 1; what <= 5; what++) {
            CHECK.is("state " + what, machine.state(what), 0);
        }
        memoryIsEmpty();
        objectsAreApart();
        firstStepHaltsWithoutAStack();
        CHECK.end();
    }

    private static void memoryIsEmpty() {
        LongMachine first = new LongMachine();
        LongMachine second = new LongMachine();
        for (int address = 0; address < 2048; address += 8) {
            CHECK.is("word " + address, first.word(address), 0);
            CHECK.is("word " + (address + 2048), second.word(address + 2048), 0);
        }
    }

    private static void objectsAreApart() {
        LongMachine first = new LongMachine();
        LongMachine second = new LongMachine();
        first.set(8, 5);
        first.put(3, 6);
        first.interrupt(1, 1);
        CHECK.is("the other's memory", second.word(8), 0);
        CHECK.is("the other's register", second.register(3), 0);
        CHECK.is("the other's interrupts", second.state(4), 0);
    }

    // PC 0 is not mapped and R30 is 0, so that the entry has nowhere to store.
    private static void firstStepHaltsWithoutAStack() {
        LongMachine machine = new LongMachine();
        CHECK.is("steps", machine.run(31), 1);
        CHECK.is("halted", machine.state(2), 2);
        CHECK.is("entries", machine.state(5), 0);
    }
}
