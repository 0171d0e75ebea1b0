/** Promise 4, and what a step does with the interrupts that are pending. */
public final class InterruptTest {
    private static final Check CHECK = new Check();

    public static void main(String[] args) {
        wrongArguments();
        onlyFourPend();
        highestGoesFirst();
        firstToldOfEqualOnes();
        levelMustBeAbove();
        entryOfAnInterrupt();
        entryFromUserMode();
        haltingEntry();
        interruptComesBeforeTheFetch();
        haltedMachine();
        CHECK.end();
    }

    private static void wrongArguments() {
        LongMachine machine = new LongMachine();
        int[][] wrong = {
            {0, 1}, {-1, 1}, {8, 1}, {256, 1}, {Integer.MIN_VALUE, 1}, {Integer.MAX_VALUE, 1},
            {1, -1}, {1, 256}, {7, 1000}, {7, Integer.MIN_VALUE}, {7, Integer.MAX_VALUE}, {0, 256}
        };
        for (int[] pair : wrong) {
            CHECK.is("interrupt " + pair[0] + ", " + pair[1], machine.interrupt(pair[0], pair[1]), false);
        }
        CHECK.is("pending", machine.state(4), 0);
        CHECK.isTrue("lowest", machine.interrupt(1, 0));
        CHECK.isTrue("highest", machine.interrupt(7, 255));
        CHECK.is("pending", machine.state(4), 2);
    }

    private static void onlyFourPend() {
        Bench bench = new Bench().level(6);
        for (int i = 1; i <= 4; i++) {
            CHECK.isTrue("interrupt " + i, bench.machine.interrupt(7, i));
            CHECK.is("pending", bench.machine.state(4), i);
        }
        CHECK.is("the fifth", bench.machine.interrupt(7, 5), false);
        CHECK.is("pending", bench.machine.state(4), 4);
        bench.run(1);
        CHECK.is("pending", bench.machine.state(4), 3);
        CHECK.isTrue("room again", bench.machine.interrupt(7, 6));
        CHECK.is("the next", bench.machine.interrupt(7, 7), false);
    }

    // The level is 0, and the vector leads to code that does nothing.
    private static Bench bench() {
        Bench bench = new Bench().vector(0, Bench.CODE).level(0);
        bench.code(Code.NOTHING, Code.NOTHING, Code.NOTHING);
        return bench;
    }

    private static void tell(Bench bench, int... levels) {
        for (int i = 0; i < levels.length; i++) {
            bench.machine.interrupt(levels[i], 100 + i);
        }
    }

    private static void takenIs(Bench bench, int number, int level) {
        CHECK.is("steps", bench.run(1), 1);
        CHECK.is("the number taken", bench.r(16), number);
        CHECK.is("PS", bench.status(), level);
    }

    private static void highestGoesFirst() {
        Bench bench = bench();
        tell(bench, 2, 6, 4, 7);
        takenIs(bench, 103, 7);
        bench.level(0);
        takenIs(bench, 101, 6);
        bench.level(3);
        takenIs(bench, 102, 4);
        bench.level(0);
        takenIs(bench, 100, 2);
        CHECK.is("pending", bench.machine.state(4), 0);
        CHECK.is("entries", bench.entries(), 4);
    }

    private static void firstToldOfEqualOnes() {
        Bench bench = bench();
        tell(bench, 5, 3, 5, 3);
        takenIs(bench, 100, 5);
        bench.level(0);
        bench.machine.interrupt(5, 9);
        takenIs(bench, 102, 5);
        bench.level(0);
        takenIs(bench, 9, 5);
        bench.level(0);
        takenIs(bench, 101, 3);
        bench.level(0);
        takenIs(bench, 103, 3);
    }

    private static void levelMustBeAbove() {
        Bench bench = bench().level(3);
        tell(bench, 3, 1, 2);
        bench.put(16, 55);
        CHECK.is("steps", bench.run(1), 1);
        CHECK.is("R16", bench.r(16), 55);
        CHECK.is("PC", bench.r(32), Bench.CODE + 4);
        CHECK.is("pending", bench.machine.state(4), 3);
        bench.machine.interrupt(4, 44);
        takenIs(bench, 44, 4);
        CHECK.is("pending", bench.machine.state(4), 3);
        bench.level(2);
        takenIs(bench, 100, 3);
    }

    private static void entryOfAnInterrupt() {
        Bench bench = new Bench().vector(0, 4444).globalPointer(-29).level(2);
        bench.put(29, 29).put(16, 116).put(17, 117).put(18, 118);
        bench.code(Code.memory(0x2A, 1, 2, 0), Code.NOTHING).put(2, Bench.DIRECT);
        bench.run(1);
        CHECK.isTrue("the lock is on", bench.locked());
        bench.machine.interrupt(5, 255);
        CHECK.is("steps", bench.run(1), 1);
        long[] due = {2, Bench.CODE + 4, 29, 116, 117, 118};
        for (int i = 0; i < 6; i++) {
            CHECK.is("stored " + i, bench.machine.word(4048 + 8 * i), due[i]);
        }
        CHECK.is("R30", bench.r(30), Bench.STACK - 48);
        CHECK.is("R16", bench.r(16), 255);
        CHECK.is("R17", bench.r(17), 0);
        CHECK.is("R18", bench.r(18), 0);
        CHECK.is("R29", bench.r(29), -29);
        CHECK.is("PC", bench.r(32), 4444);
        CHECK.is("PS", bench.status(), 5);
        CHECK.is("the lock", bench.locked(), false);
        CHECK.is("entries", bench.entries(), 1);
    }

    private static void entryFromUserMode() {
        Bench bench = new Bench().tables().page(0, 1, Bench.OPEN).vector(0, Bench.CODE);
        bench.user(1, 16, 333);
        CHECK.is("PS", bench.status(), 9);
        bench.machine.interrupt(7, 3);
        takenIs(bench, 3, 7);
        CHECK.is("PS as it was", bench.machine.word(4048), 9);
        CHECK.is("PC as it was", bench.machine.word(4056), 16);
        CHECK.is("USP", bench.r(34), 333);
        CHECK.is("R30", bench.r(30), Bench.STACK - 48);
    }

    private static void haltingEntry() {
        Bench bench = new Bench().level(0).put(30, 12345678);
        bench.machine.interrupt(4, 77);
        CHECK.is("steps", bench.run(5), 1);
        CHECK.is("halted", bench.halted(), 2);
        CHECK.is("the level stays", bench.status(), 0);
        CHECK.is("it went out", bench.machine.state(4), 0);
        CHECK.is("PC", bench.r(32), Bench.CODE);
        CHECK.is("R16", bench.r(16), 0);
        CHECK.is("entries", bench.entries(), 0);
    }

    private static void interruptComesBeforeTheFetch() {
        Bench bench = new Bench().tables().page(0, 1, Bench.OPEN).level(0).put(32, 0);
        bench.machine.interrupt(1, 1);
        takenIs(bench, 1, 1);
        CHECK.is("nothing was fetched", bench.buffered(), 0);
        CHECK.is("entries", bench.entries(), 1);
    }

    private static void haltedMachine() {
        Bench bench = new Bench().level(0).code(Code.call(0));
        bench.run(1);
        CHECK.isTrue("interrupt", bench.machine.interrupt(7, 1));
        CHECK.is("pending", bench.machine.state(4), 1);
        CHECK.is("steps", bench.run(1), 0);
        CHECK.is("pending", bench.machine.state(4), 1);
    }
}
