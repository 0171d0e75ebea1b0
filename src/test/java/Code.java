/** Puts the parts of an instruction together. */
final class Code {
    static final int NOTHING = 0x18 << 26;

    private Code() {
    }

    static int memory(int op, int a, int b, int d) {
        return op << 26 | a << 21 | b << 16 | d & 0xFFFF;
    }

    static int branch(int op, int a, int e) {
        return op << 26 | a << 21 | e & 0x1FFFFF;
    }

    static int jump(int a, int b) {
        return memory(0x1A, a, b, 0);
    }

    static int operate(int op, int a, int b, int f, int c) {
        return op << 26 | a << 21 | b << 16 | f << 5 | c;
    }

    static int literal(int op, int a, int y, int f, int c) {
        return op << 26 | a << 21 | y << 13 | 1 << 12 | f << 5 | c;
    }

    static int call(int number) {
        return number;
    }
}
