import java.math.BigInteger;

/**
 * The OPs 10h to 13h once more, by whole numbers and by single bytes, so that
 * the program's shifts and masks are compared with something of another kind.
 */
final class OperationModel {
    static final int UNKNOWN = 0;
    static final int RESULT = 1;
    static final int NO_RESULT = 2;
    static final int TRAP = 3;

    int outcome;
    long result;

    void compute(int op, int f, long x, long y) {
        outcome = UNKNOWN;
        result = 0;
        switch (op) {
            case 0x10: sums(f, x, y); compares(f, x, y); break;
            case 0x11: logic(f, x, y); moves(f, x, y); break;
            case 0x12: shifts(f, x, y); low(f, x, (int) (y & 7)); high(f, x, (int) (y & 7)); break;
            default: products(f, x, y); break;
        }
    }

    private void give(long v) {
        outcome = RESULT;
        result = v;
    }

    private static BigInteger big(long v) {
        return BigInteger.valueOf(v);
    }

    private static BigInteger unsigned(long v) {
        return new BigInteger(Long.toUnsignedString(v));
    }

    private void wide(BigInteger exact, boolean traps) {
        give(exact.longValue());
        outcome = traps && exact.bitLength() > 63 ? TRAP : RESULT;
    }

    private void narrow(BigInteger exact, boolean traps) {
        give(exact.intValue());
        outcome = traps && exact.bitLength() > 31 ? TRAP : RESULT;
    }

    private void sums(int f, long x, long y) {
        BigInteger a = big(x);
        BigInteger b = big(y);
        BigInteger shortA = big((int) x);
        BigInteger shortB = big((int) y);
        switch (f) {
            case 0x00: narrow(a.add(b), false); break;
            case 0x02: narrow(a.multiply(big(4)).add(b), false); break;
            case 0x12: narrow(a.multiply(big(8)).add(b), false); break;
            case 0x09: narrow(a.subtract(b), false); break;
            case 0x0B: narrow(a.multiply(big(4)).subtract(b), false); break;
            case 0x20: wide(a.add(b), false); break;
            case 0x22: wide(a.multiply(big(4)).add(b), false); break;
            case 0x32: wide(a.multiply(big(8)).add(b), false); break;
            case 0x29: wide(a.subtract(b), false); break;
            case 0x2B: wide(a.multiply(big(4)).subtract(b), false); break;
            case 0x40: narrow(shortA.add(shortB), true); break;
            case 0x49: narrow(shortA.subtract(shortB), true); break;
            case 0x60: wide(a.add(b), true); break;
            case 0x69: wide(a.subtract(b), true); break;
            default: break;
        }
    }

    private void compares(int f, long x, long y) {
        int signed = big(x).compareTo(big(y));
        int plain = unsigned(x).compareTo(unsigned(y));
        switch (f) {
            case 0x2D: give(signed == 0 ? 1 : 0); break;
            case 0x4D: give(signed < 0 ? 1 : 0); break;
            case 0x6D: give(signed <= 0 ? 1 : 0); break;
            case 0x1D: give(plain < 0 ? 1 : 0); break;
            case 0x3D: give(plain <= 0 ? 1 : 0); break;
            case 0x0F:
                long bits = 0;
                for (int i = 0; i < 8; i++) {
                    bits += byteOf(x, i) >= byteOf(y, i) ? 1 << i : 0;
                }
                give(bits);
                break;
            default: break;
        }
    }

    private void logic(int f, long x, long y) {
        BigInteger a = big(x);
        BigInteger b = big(y);
        switch (f) {
            case 0x00: wide(a.and(b), false); break;
            case 0x08: wide(a.andNot(b), false); break;
            case 0x20: wide(a.or(b), false); break;
            case 0x28: wide(a.or(b.not()), false); break;
            case 0x40: wide(a.xor(b), false); break;
            case 0x48: wide(a.xor(b).not(), false); break;
            default: break;
        }
    }

    private void moves(int f, long x, long y) {
        int sign = big(x).signum();
        boolean odd = big(x).testBit(0);
        switch (f) {
            case 0x14: move(odd, y); break;
            case 0x16: move(!odd, y); break;
            case 0x24: move(sign == 0, y); break;
            case 0x26: move(sign != 0, y); break;
            case 0x44: move(sign < 0, y); break;
            case 0x46: move(sign >= 0, y); break;
            case 0x64: move(sign <= 0, y); break;
            case 0x66: move(sign > 0, y); break;
            default: break;
        }
    }

    private void move(boolean holds, long y) {
        outcome = holds ? RESULT : NO_RESULT;
        result = y;
    }

    private void shifts(int f, long x, long y) {
        int places = big(y).mod(big(64)).intValue();
        switch (f) {
            case 0x34: wide(unsigned(x).shiftRight(places), false); break;
            case 0x39: wide(big(x).shiftLeft(places), false); break;
            case 0x3C: wide(big(x).shiftRight(places), false); break;
            case 0x30: case 0x31:
                int[] bytes = new int[8];
                for (int i = 0; i < 8; i++) {
                    bytes[i] = big(y).testBit(i) == (f == 0x31) ? byteOf(x, i) : 0;
                }
                giveBytes(bytes);
                break;
            default: break;
        }
    }

    private static int byteOf(long v, int i) {
        return i < 0 || i > 7 ? 0 : unsigned(v).shiftRight(8 * i).and(big(255)).intValue();
    }

    private void giveBytes(int[] bytes) {
        BigInteger sum = BigInteger.ZERO;
        for (int i = 7; i >= 0; i--) {
            sum = sum.multiply(big(256)).add(big(bytes[i]));
        }
        give(sum.longValue());
    }

    private void low(int f, long x, int k) {
        int size = f < 0x40 ? 1 << f / 16 : 0;
        int kind = f % 16;
        if (size == 0 || kind != 0x06 && kind != 0x0B && kind != 0x02) {
            return;
        }
        int[] bytes = new int[8];
        for (int i = 0; i < 8; i++) {
            boolean inside = i >= k && i < k + size;
            switch (kind) {
                case 0x06: bytes[i] = i < size ? byteOf(x, i + k) : 0; break;
                case 0x0B: bytes[i] = inside ? byteOf(x, i - k) : 0; break;
                default: bytes[i] = inside ? 0 : byteOf(x, i); break;
            }
        }
        giveBytes(bytes);
    }

    // The part of a word that begins at byte k and goes beyond byte 7.
    private void high(int f, long x, int k) {
        int size = f >= 0x50 ? 1 << f / 16 - 4 : 0;
        int kind = f % 16;
        if (size == 0 || kind != 0x0A && kind != 0x07 && kind != 0x02) {
            return;
        }
        int[] bytes = new int[8];
        for (int i = 0; i < 8; i++) {
            boolean beyond = k != 0 && i + 8 - k < size;
            switch (kind) {
                case 0x0A: bytes[i] = i >= size ? 0 : k == 0 ? byteOf(x, i) : byteOf(x, i - (8 - k)); break;
                case 0x07: bytes[i] = beyond ? byteOf(x, i + 8 - k) : 0; break;
                default: bytes[i] = beyond ? 0 : byteOf(x, i); break;
            }
        }
        giveBytes(bytes);
    }

    private void products(int f, long x, long y) {
        switch (f) {
            case 0x00: narrow(big(x).multiply(big(y)), false); break;
            case 0x20: wide(big(x).multiply(big(y)), false); break;
            case 0x30: wide(unsigned(x).multiply(unsigned(y)).shiftRight(64), false); break;
            case 0x40: narrow(big((int) x).multiply(big((int) y)), true); break;
            case 0x60: wide(big(x).multiply(big(y)), true); break;
            default: break;
        }
    }
}
