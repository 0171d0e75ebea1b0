import java.io.IOException;
import java.nio.file.Files;
import java.nio.file.Path;
import java.util.List;

/** README.md's examples, line by line, its table of calls, and what it says of wrong arguments. */
public final class ReadmeTest {
    private static final Check CHECK = new Check();

    public static void main(String[] args) throws IOException {
        sum();
        userAndKernel();
        everyHaltIsAsTold();
        aNewMachineLetsNoInterruptIn();
        wrongArgumentsChangeNothing();
        theExamplesStandHere();
        CHECK.end();
    }

    private static void sum() {
        LongMachine machine = new LongMachine();
        machine.set(256, 0x00000000_40205402L);  // R2 = R1 + 2 (OP 10h, F 20h); CALL 00, which halts
        machine.put(1, 40);                      // R1
        machine.put(32, 32768 + 256);            // PC: the kernel finds place 256 here
        int steps = machine.run(31);             // 2: the step that halts counts
        long sum = machine.register(2);          // 42
        int halted = machine.state(2);           // 1: by CALL 00
        CHECK.is("steps of the sum", steps, 2);
        CHECK.is("sum", sum, 42);
        CHECK.is("how the sum is halted", halted, 1);
    }

    private static void userAndKernel() {
        LongMachine machine = new LongMachine();
        machine.set(0, 0x1_00000001L);           // the first table, at TABLE (0): the second is at 256
        machine.set(256, 0x2_00000001L);         // the third is at 512
        machine.set(512, 0x3_000000F1L);         // page 0 is at 768, for all, to read and to write
        machine.set(768, 0x00000083_203F0005L);  // the user's, at V = 0: R1 = 5; CALL 83h
        machine.set(1024, 0x0000003F_00000034L); // the kernel's: VECTOR R17 = R16; RETURN
        machine.set(1032, 0x00000000L);          // behind vector 5: CALL 00
        machine.put(16, 32768 + 1032);
        machine.put(17, 5);
        machine.set(2048, 8);                    // what RETURN reads: PS (USER, level 0), then PC 0 and four more
        machine.put(30, 32768 + 2048);
        machine.put(32, 32768 + 1024);
        int steps = machine.run(31);             // 5
        long five = machine.register(1);         // 5
        int entries = machine.state(5);          // 1: CALL 83h
        long oldStatus = machine.word(2048);     // 8: PS, as ENTRY stored it
        long oldPlace = machine.word(2056);      // 8: PC behind the CALL
        int buffered = machine.state(3);         // 1: the descriptor of page 0
        CHECK.is("steps of the user and the kernel", steps, 5);
        CHECK.is("the user's R1", five, 5);
        CHECK.is("entries", entries, 1);
        CHECK.is("PS that was stored", oldStatus, 8);
        CHECK.is("PC that was stored", oldPlace, 8);
        CHECK.is("descriptors in the buffer", buffered, 1);
        CHECK.is("halted by the kernel", machine.state(2), 1);
        CHECK.is("in the kernel, level 0", machine.state(0), 0);
    }

    private static void everyHaltIsAsTold() {
        halts("CALL 00", 0x00, 32768 + 2048, 1);
        halts("an ENTRY without a stack", 0x83, 20000, 2);
        halts("a RETURN without a stack", 0x3F, 20000, 3);
    }

    private static void halts(String what, int call, long stack, int due) {
        LongMachine machine = new LongMachine();
        machine.set(256, call);
        machine.put(30, stack);
        machine.put(32, 32768 + 256);
        CHECK.is(what + ": not halted at first", machine.state(2), 0);
        CHECK.is(what + ": steps", machine.run(31), 1);
        CHECK.is(what + ": how it is halted", machine.state(2), due);
        CHECK.is(what + ": steps after it", machine.run(1), 0);
        CHECK.is(what + ": it stays halted", machine.state(2), due);
    }

    // CALL 35h with R16 0 makes the level 0, and the next step is the interrupt's.
    private static void aNewMachineLetsNoInterruptIn() {
        LongMachine machine = new LongMachine();
        machine.set(256, 0x00000035_60000000L);
        machine.put(30, 32768 + 2048);
        machine.put(32, 32768 + 256);
        machine.interrupt(7, 9);
        machine.run(2);
        CHECK.is("an interrupt that waits", machine.state(4), 1);
        machine.run(1);
        CHECK.is("an interrupt that came in", machine.state(4), 0);
        CHECK.is("its number", machine.register(16), 9);
    }

    private static void wrongArgumentsChangeNothing() {
        LongMachine machine = new LongMachine();
        long before = allOf(machine);
        for (int wrong : new int[] {Integer.MIN_VALUE, -8, -1, 4096, Integer.MAX_VALUE}) {
            CHECK.is("set at " + wrong, machine.set(wrong, 1), false);
            CHECK.is("put of " + wrong, machine.put(wrong, 1), false);
            CHECK.is("interrupt of level " + wrong, machine.interrupt(wrong, 1), false);
            CHECK.is("interrupt of number " + wrong, machine.interrupt(1, wrong), false);
            CHECK.is("run of " + wrong, machine.run(wrong), 0);
            CHECK.is("register " + wrong, machine.register(wrong), -1);
            CHECK.is("word at " + wrong, machine.word(wrong), -1);
            CHECK.is("state " + wrong, machine.state(wrong), -1);
        }
        CHECK.is("all that can be seen", allOf(machine), before);
    }

    private static long allOf(LongMachine machine) {
        long all = 0;
        for (int r = 0; r <= 45; r++) {
            all = 31 * all + machine.register(r);
        }
        for (int what = 0; what <= 5; what++) {
            all = 31 * all + machine.state(what);
        }
        for (int address = 0; address < 800; address += 8) {
            all = 31 * all + machine.word(address);
        }
        return all;
    }

    // An example that is changed in README.md alone would no longer be tested.
    private static void theExamplesStandHere() throws IOException {
        List<String> here = Files.readAllLines(Path.of("src/test/java/ReadmeTest.java")).stream().map(String::trim).toList();
        boolean inExample = false;
        int at = 0;
        int examples = 0;
        for (String line : Files.readAllLines(Path.of("README.md"))) {
            if (line.startsWith("```")) {
                inExample = line.equals("```java");
                examples += inExample ? 1 : 0;
            } else if (inExample) {
                int found = here.subList(at, here.size()).indexOf(line.trim());
                CHECK.isTrue("README.md, in its turn in this test: " + line, found >= 0);
                at += found + 1;
            }
        }
        CHECK.is("examples in README.md", examples, 2);
    }
}
