import java.util.ArrayDeque;
import java.util.ArrayList;
import java.util.Deque;
import java.util.List;

/**
 * The machine once more, written down sentence by sentence and by other means than
 * the program's (bytes, lists, exceptions), so that whole runs can be compared.
 */
final class MachineModel {
    private static final int EXECUTE = -1;
    private static final int READ = 0;
    private static final int WRITE = 1;

    /** Leaves an instruction for an ENTRY. */
    private static final class Entry extends RuntimeException {
        private static final long serialVersionUID = 1;
        final int k;
        final long a;
        final long b;
        final long c;
        final boolean next;

        Entry(int k, long a, long b, long c, boolean next) {
            super(null, null, false, false);
            this.k = k;
            this.a = a;
            this.b = b;
            this.c = c;
            this.next = next;
        }
    }

    private final byte[] memory = new byte[4096];
    private final long[] r = new long[32];
    private final long[] vectors = new long[6];
    private final List<int[]> pending = new ArrayList<>();
    private final Deque<long[]> buffer = new ArrayDeque<>();
    private final OperationModel operation = new OperationModel();
    private long pc;
    private long ksp;
    private long usp;
    private long kgp;
    private long value;
    private long table;
    private long space;
    private long mode;
    private long level = 7;
    private boolean lock;
    private int halted;
    private int entries;

    boolean set(int address, long v) {
        if (address < 0 || address > 4088 || address % 8 != 0) {
            return false;
        }
        storeAt(address, 8, v);
        return true;
    }

    boolean put(int number, long v) {
        if (number < 0 || number > 33) {
            return false;
        }
        if (number < 32) {
            become(number, v);
        } else if (number == 32) {
            pc = withoutLowerTwo(v);
        } else {
            ksp = v;
        }
        return true;
    }

    boolean interrupt(int wanted, int number) {
        boolean fits = wanted >= 1 && wanted <= 7 && number >= 0 && number <= 255 && pending.size() < 4;
        if (fits) {
            pending.add(new int[] {wanted, number});
        }
        return fits;
    }

    int run(int n) {
        int done = 0;
        while (n >= 1 && n <= 31 && done < n && halted == 0) {
            step();
            done++;
        }
        return done;
    }

    long register(int number) {
        if (number >= 0 && number <= 31) {
            return r[number];
        }
        if (number >= 40 && number <= 45) {
            return vectors[number - 40];
        }
        long[] others = {pc, ksp, usp, kgp, value, table, space};
        return number >= 32 && number <= 38 ? others[number - 32] : -1;
    }

    long word(int address) {
        return address < 0 || address > 4088 || address % 8 != 0 ? -1 : loadAt(address, 8);
    }

    long state(int what) {
        long[] states = {status(), lock ? 1 : 0, halted, buffer.size(), pending.size(), entries};
        return what >= 0 && what <= 5 ? states[what] : -1;
    }

    private long status() {
        return 8 * mode + level;
    }

    private void become(int number, long v) {
        r[number] = number == 31 ? 0 : v;
    }

    private static long withoutLowerTwo(long v) {
        return v - Math.floorMod(v, 4L);
    }

    private long loadAt(int place, int size) {
        long found = size == 4 && memory[place + 3] < 0 ? -1 : 0;
        for (int i = size - 1; i >= 0; i--) {
            found = found * 256 + (memory[place + i] & 255);
        }
        return found;
    }

    private void storeAt(int place, int size, long v) {
        for (int i = 0; i < size; i++) {
            memory[place + i] = (byte) (v >> 8 * i);
        }
    }

    private void step() {
        int[] highest = null;
        for (int[] one : pending) {
            if (one[0] > level && (highest == null || one[0] > highest[0])) {
                highest = one;
            }
        }
        long at = pc;
        if (highest != null) {
            pending.remove(highest);
            if (enter(0, highest[1], 0, 0, at)) {
                level = highest[0];
            }
            return;
        }
        try {
            long code = loadAt(translate(pc, EXECUTE), 4);
            pc += 4;
            execute((int) (code >> 26 & 63), (int) code);
        } catch (Entry entry) {
            enter(entry.k, entry.a, entry.b, entry.c, entry.next ? at + 4 : at);
        }
    }

    private static Entry refused(int why) {
        return new Entry(3, why, 0, 0, false);
    }

    private void execute(int op, int code) {
        int a = code >> 21 & 31;
        int b = code >> 16 & 31;
        long d = code << 16 >> 16;
        if (op == 0x00) {
            call(code & 255);
        } else if (op == 0x08) {
            become(a, r[b] + d);
        } else if (op == 0x09) {
            become(a, r[b] + 65536 * d);
        } else if (op >= 0x10 && op <= 0x13) {
            operate(op, code);
        } else if (op == 0x0B || op == 0x0F) {
            long v = r[b] + d;
            reach(op == 0x0B ? 0x29 : 0x2D, op, a, v - Math.floorMod(v, 8L));
        } else if (op >= 0x28 && op <= 0x2F) {
            reach(op, op, a, r[b] + d);
        } else if (op == 0x1A) {
            long to = withoutLowerTwo(r[b]);
            become(a, pc);
            pc = to;
        } else if (op >= 0x30 && op != 0x31 && op != 0x32 && op != 0x33 && op != 0x35 && op != 0x36 && op != 0x37) {
            branch(op, a, code << 11 >> 11);
        } else if (op != 0x18) {
            throw refused(4);
        }
    }

    private void branch(int op, int a, long e) {
        long x = r[a];
        boolean[] holds = {x % 2 == 0, x == 0, x < 0, x <= 0, x % 2 != 0, x != 0, x >= 0, x > 0};
        if (op < 0x38) {
            become(a, pc);
        }
        if (op < 0x38 || holds[op - 0x38]) {
            pc += 4 * e;
        }
    }

    private void operate(int op, int code) {
        long y = (code & 4096) != 0 ? code >> 13 & 255 : r[code >> 16 & 31];
        operation.compute(op, code >> 5 & 127, r[code >> 21 & 31], y);
        if (operation.outcome == OperationModel.UNKNOWN) {
            throw refused(4);
        }
        if (operation.outcome != OperationModel.NO_RESULT) {
            become(code & 31, operation.result);
        }
        if (operation.outcome == OperationModel.TRAP) {
            throw new Entry(1, 0, 0, 0, true);
        }
    }

    private void reach(int kind, int op, int a, long v) {
        int size = kind % 2 == 0 ? 4 : 8;
        boolean locking = kind == 0x2A || kind == 0x2B;
        boolean conditional = kind >= 0x2E;
        if (Math.floorMod(v, (long) size) != 0) {
            throw new Entry(4, v, op, a, false);
        }
        if (kind < 0x2C) {
            become(a, loadAt(translate(v, READ), size));
            lock |= locking;
        } else if (!conditional || lock) {
            storeAt(translate(v, WRITE), size, r[a]);
        }
        if (conditional) {
            become(a, lock ? 1 : 0);
            lock = false;
        }
    }

    private static Entry fault(long v, int fault, int access) {
        return new Entry(2, v, fault, access, false);
    }

    private int translate(long v, int access) {
        if (v < 0 || v > 65535 || v >= 16384 && v <= 32767) {
            throw fault(v, 1, access);
        }
        if (v >= 32768) {
            if (v - 32768 >= 4096 || mode != 0) {
                throw fault(v, 1, access);
            }
            return (int) v - 32768;
        }
        long descriptor = descriptorOf(v, access);
        long needed = (access == WRITE ? 64 : 16) << mode;
        if ((descriptor & needed) == 0) {
            throw fault(v, 1, access);
        }
        if (descriptor % 2 == 0) {
            throw fault(v, 0, access);
        }
        if (access == READ && (descriptor & 2) != 0) {
            throw fault(v, 3, access);
        }
        if (access == WRITE && (descriptor & 4) != 0) {
            throw fault(v, 4, access);
        }
        if (access == EXECUTE && (descriptor & 8) != 0) {
            throw fault(v, 2, access);
        }
        return 256 * numberOf(descriptor) + (int) v % 256;
    }

    private static int numberOf(long descriptor) {
        return (int) (descriptor >> 32 & 15);
    }

    private long descriptorOf(long v, int access) {
        long page = v / 256;
        for (long[] one : buffer) {
            if (one[0] == page && one[1] == space) {
                return one[2];
            }
        }
        int start = (int) table;
        for (int shift = 12; shift >= 10; shift -= 2) {
            long found = loadAt(start + 8 * (int) (v >> shift & 3), 8);
            if (found % 2 == 0) {
                throw fault(v, 0, access);
            }
            start = 256 * numberOf(found);
        }
        long third = loadAt(start + 8 * (int) (v >> 8 & 3), 8);
        if (third % 2 != 0) {
            buffer.addLast(new long[] {page, space, third});
            if (buffer.size() > 4) {
                buffer.removeFirst();
            }
        }
        return third;
    }

    private boolean enter(int k, long a, long b, long c, long told) {
        long[] longs = {status(), told, r[29], r[16], r[17], r[18]};
        if (mode == 1) {
            usp = r[30];
            r[30] = ksp;
        }
        mode = 0;
        if (Math.floorMod(r[30], 8L) != 0) {
            halted = 2;
            return false;
        }
        try {
            for (int i = 0; i < 6; i++) {
                storeAt(translate(r[30] - 48 + 8 * i, WRITE), 8, longs[i]);
            }
        } catch (Entry fault) {
            halted = 2;
            return false;
        }
        r[30] -= 48;
        r[16] = a;
        r[17] = b;
        r[18] = c;
        r[29] = kgp;
        lock = false;
        pc = vectors[k];
        entries++;
        return true;
    }

    private void call(int number) {
        switch (number) {
            case 0x80: throw new Entry(3, 0, 0, 0, true);
            case 0x81: throw new Entry(3, 1, 0, 0, true);
            case 0xAA: throw new Entry(3, 2, 0, 0, true);
            case 0x83: throw new Entry(5, r[16], r[17], r[18], true);
            case 0x86: return;
            default: break;
        }
        if (number != 0 && number != 0x3F && number != 0x3A && (number < 0x30 || number > 0x38)) {
            throw refused(4);
        }
        if (mode == 1) {
            throw refused(3);
        }
        kernelCall(number);
    }

    private void kernelCall(int number) {
        switch (number) {
            case 0x00: halted = 1; break;
            case 0x3F: comeBack(); break;
            case 0x34:
                int k = (int) (r[17] & 7);
                if (k <= 5) {
                    vectors[k] = withoutLowerTwo(r[16]);
                }
                break;
            case 0x35:
                r[0] = level;
                level = r[16] & 7;
                break;
            case 0x36: r[0] = status(); break;
            case 0x37: kgp = r[16]; break;
            case 0x38: usp = r[16]; break;
            case 0x3A: r[0] = usp; break;
            case 0x31: value = r[16]; break;
            case 0x32: r[0] = value; break;
            case 0x33: buffer.clear(); break;
            default:
                r[0] = 256 * space + table;
                table = r[16] & 4064;
                space = r[17] & 255;
                break;
        }
    }

    private void comeBack() {
        long[] longs = new long[6];
        try {
            for (int i = 0; i < 6; i++) {
                if (Math.floorMod(r[30], 8L) != 0) {
                    throw fault(r[30], 0, READ);
                }
                longs[i] = loadAt(translate(r[30] + 8 * i, READ), 8);
            }
        } catch (Entry fault) {
            halted = 3;
            return;
        }
        mode = longs[0] >> 3 & 1;
        level = longs[0] & 7;
        pc = withoutLowerTwo(longs[1]);
        r[29] = longs[2];
        r[16] = longs[3];
        r[17] = longs[4];
        r[18] = longs[5];
        r[30] += 48;
        if (mode == 1) {
            ksp = r[30];
            r[30] = usp;
        }
        lock = false;
    }
}
