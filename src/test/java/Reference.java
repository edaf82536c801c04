import java.math.BigInteger;
import java.util.Map;
import java.util.TreeMap;

/**
 * A second reading of the document, slow and written apart from the class: bytes for memory, longs
 * without a sign for addresses, numbers put together bit by bit, exceptions for traps.
 */
final class Reference {
    static final class Trap extends Exception {
        private static final long serialVersionUID = 1;
        final int cause;
        final int value;

        Trap(int cause, int value) {
            super(null, null, false, false);
            this.cause = cause;
            this.value = value;
        }
    }

    private static final long SIZE = 4L * 65536;

    final byte[] bytes = new byte[(int) SIZE];
    final int[] registers = new int[32];
    final Map<Integer, Integer> controls = new TreeMap<>();
    int pc = 0;
    int mode = 1;
    boolean called = false;
    private int next;
    private boolean ends;

    Reference() {
        for (int n : Asm.CONTROLS) {
            controls.put(n, n == Asm.TURN || n == Asm.WORK ? -1 : 0);
        }
    }

    void setControl(int n, int v) {
        int kept = v;
        if (n == Asm.STATUS) {
            kept = (bit(v, 8) << 8) + (bit(v, 18) << 18);
        } else if (n == Asm.VECTOR || n == Asm.RETURN) {
            kept = v - (v & 3);
        }
        controls.put(n, kept);
    }

    int peek(long address) {
        int v = 0;
        for (int k = 3; k >= 0; k--) {
            v = v * 256 + (bytes[(int) address + k] & 255);
        }
        return v;
    }

    void poke(long address, int v) {
        for (int k = 0; k < 4; k++) {
            bytes[(int) address + k] = (byte) (v >> 8 * k);
        }
    }

    int run(int most) {
        if (most == 0) {
            return 0;
        }
        called = false;
        for (int made = 1; made <= most; made++) {
            ends = false;
            step();
            if (ends) {
                called = true;
                return made;
            }
        }
        return most;
    }

    int translate(int address, int how) {
        try {
            return (int) place(address, how);
        } catch (Trap t) {
            return -1 - t.cause;
        }
    }

    private void step() {
        int was = mode;
        try {
            if (was == 0 && controls.get(Asm.WORK) == 0) {
                throw new Trap(0x18, 0);
            }
            if (was == 0 && controls.get(Asm.TURN) == 0) {
                throw new Trap((int) 0x80000005L, 0);
            }
            if (pc % 4 != 0) {
                throw new Trap(0, pc);
            }
            int word = peek(place(pc, 0));
            next = pc + 4;
            perform(word);
            pc = next;
            if (was == 0) {
                less(Asm.WORK);
                less(Asm.TURN);
            }
        } catch (Trap t) {
            setControl(Asm.RETURN, pc);
            setControl(Asm.CAUSE, t.cause);
            setControl(Asm.VALUE, t.value);
            setControl(Asm.STATUS, (bit(controls.get(Asm.STATUS), 18) << 18) + (mode << 8));
            mode = 1;
            pc = controls.get(Asm.VECTOR);
        }
    }

    private void less(int n) {
        if (controls.get(n) != -1) {
            setControl(n, controls.get(n) - 1);
        }
    }

    private static int bit(int v, int k) {
        return v >>> k & 1;
    }

    /** Bits from .. to, as a number without a sign. */
    private static int bits(int v, int from, int to) {
        int n = 0;
        for (int k = to; k >= from; k--) {
            n = 2 * n + bit(v, k);
        }
        return n;
    }

    private static long unsigned(int v) {
        return v < 0 ? v + (1L << 32) : v;
    }

    private static long wrapped(long v) {
        return v % (1L << 32);
    }

    private static int by(int how, int fetch, int load, int store) {
        return how == 0 ? fetch : how == 1 ? load : store;
    }

    private int entry(long at, int address, int how) throws Trap {
        if (wrapped(at) >= SIZE) {
            throw new Trap(by(how, 1, 5, 7), address);
        }
        return peek(wrapped(at));
    }

    /** The address of a byte in the memory. */
    private long place(int address, int how) throws Trap {
        long to = unsigned(address);
        int tables = controls.get(Asm.TABLES);
        if (bit(tables, 31) == 1) {
            long t = bits(tables, 0, 21) * 4096L;
            boolean first = true;
            int e = entry(t + 4L * bits(address, 22, 31), address, how);
            if (bits(e, 0, 3) == 1) {
                first = false;
                e = entry(bits(e, 10, 31) * 4096L + 4L * bits(address, 12, 21), address, how);
            }
            if (!allows(e, how, first)) {
                throw new Trap(by(how, 0xc, 0xd, 0xf), address);
            }
            to = wrapped(bits(e, 10, 31) * 4096L) + bits(address, 0, 11)
                + (first ? bits(address, 12, 21) * 4096L : 0);
        }
        if (to >= SIZE) {
            throw new Trap(by(how, 1, 5, 7), address);
        }
        return to;
    }

    private boolean allows(int e, int how, boolean first) {
        if (bit(e, 0) == 0 || bit(e, 2) == 1 && bit(e, 1) == 0 || bit(e, 1) + bit(e, 3) == 0) {
            return false;
        }
        if (first && bits(e, 10, 19) != 0 || bit(e, 6) == 0) {
            return false;
        }
        if (how == 0 && bit(e, 3) == 0 || how == 1 && bit(e, 1) == 0) {
            return false;
        }
        if (how == 2 && bit(e, 2) + bit(e, 7) != 2) {
            return false;
        }
        if (mode == 0) {
            return bit(e, 4) == 1;
        }
        return bit(e, 4) == 0 || how != 0 && bit(controls.get(Asm.STATUS), 18) == 1;
    }

    /** A number with a sign out of a word's bits, told from the highest on. */
    private static int number(int word, int... places) {
        int n = -bit(word, places[0]);
        for (int k = 1; k < places.length; k++) {
            n = 2 * n + bit(word, places[k]);
        }
        return n;
    }

    private static int numberI(int word) {
        return number(word, 31, 30, 29, 28, 27, 26, 25, 24, 23, 22, 21, 20);
    }

    private static int numberS(int word) {
        return number(word, 31, 30, 29, 28, 27, 26, 25, 11, 10, 9, 8, 7);
    }

    private static int numberC(int word) {
        return number(word, 31, 7, 30, 29, 28, 27, 26, 25, 11, 10, 9, 8);
    }

    private static int numberJ(int word) {
        return number(word, 31, 19, 18, 17, 16, 15, 14, 13, 12, 20, 30, 29, 28, 27, 26, 25, 24, 23, 22, 21);
    }

    private void goTo(int address) throws Trap {
        if (address % 4 != 0) {
            throw new Trap(0, address);
        }
        next = address;
    }

    private void write(int word, int v) {
        int d = bits(word, 7, 11);
        registers[d] = d == 0 ? 0 : v;
    }

    private void perform(int word) throws Trap {
        int op = bits(word, 0, 6);
        int f = bits(word, 12, 14);
        int g = bits(word, 25, 31);
        int a = registers[bits(word, 15, 19)];
        int b = registers[bits(word, 20, 24)];
        int upper = bits(word, 12, 31) * 4096;
        if (op == 0x37) {
            write(word, upper);
        } else if (op == 0x17) {
            write(word, pc + upper);
        } else if (op == 0x6f) {
            goTo(pc + 2 * numberJ(word));
            write(word, pc + 4);
        } else if (op == 0x67 && f == 0) {
            int to = a + numberI(word);
            goTo(to - (to & 1));
            write(word, pc + 4);
        } else if (op == 0x63 && f != 2 && f != 3) {
            if (holds(f, a, b)) {
                goTo(pc + 2 * numberC(word));
            }
        } else if (op == 3 && f != 3 && f < 6) {
            write(word, load(a + numberI(word), f));
        } else if (op == 0x23 && f < 3) {
            store(a + numberS(word), f, b);
        } else if (op == 0x13 && (f == 1 || f == 5) && (g == 0 || g == 0x20 && f == 5)) {
            write(word, calculated(g, f, a, bits(word, 20, 24)));
        } else if (op == 0x13 && f != 1 && f != 5) {
            write(word, calculated(0, f, a, numberI(word)));
        } else if (op == 0x33 && (g < 2 || g == 0x20 && (f == 0 || f == 5))) {
            write(word, calculated(g, f, a, b));
        } else if (op == 0x73) {
            system(word, f, g, a);
        } else if (op != 0xf || f != 0) {
            throw new Trap(2, word);
        }
    }

    private static boolean holds(int f, int a, int b) {
        switch (f) {
            case 0: return a == b;
            case 1: return a != b;
            case 4: return a < b;
            case 5: return a >= b;
            case 6: return unsigned(a) < unsigned(b);
            default: return unsigned(a) >= unsigned(b);
        }
    }

    private int load(int address, int f) throws Trap {
        int size = f % 4 == 0 ? 1 : f % 4 == 1 ? 2 : 4;
        if (unsigned(address) % size != 0) {
            throw new Trap(4, address);
        }
        long at = place(address, 1);
        long v = 0;
        for (int k = size - 1; k >= 0; k--) {
            v = v * 256 + (bytes[(int) at + k] & 255);
        }
        if (f < 2 && v >= 1L << 8 * size - 1) {
            v -= 1L << 8 * size;
        }
        return (int) v;
    }

    private void store(int address, int f, int v) throws Trap {
        int size = f == 0 ? 1 : f == 1 ? 2 : 4;
        if (unsigned(address) % size != 0) {
            throw new Trap(6, address);
        }
        long at = place(address, 2);
        for (int k = 0; k < size; k++) {
            bytes[(int) at + k] = (byte) (v >> 8 * k);
        }
    }

    private static BigInteger big(long v) {
        return BigInteger.valueOf(v);
    }

    private static int calculated(int g, int f, int a, int y) {
        BigInteger ua = big(unsigned(a));
        BigInteger uy = big(unsigned(y));
        int shift = bits(y, 0, 4);
        switch (g * 8 + f) {
            case 0: return ua.add(uy).intValue();
            case 1: return ua.shiftLeft(shift).intValue();
            case 2: return a < y ? 1 : 0;
            case 3: return ua.compareTo(uy) < 0 ? 1 : 0;
            case 4: return ua.xor(uy).intValue();
            case 5: return ua.shiftRight(shift).intValue();
            case 6: return ua.or(uy).intValue();
            case 7: return ua.and(uy).intValue();
            case 8: return ua.multiply(uy).intValue();
            case 9: return big(a).multiply(big(y)).shiftRight(32).intValue();
            case 10: return big(a).multiply(uy).shiftRight(32).intValue();
            case 11: return ua.multiply(uy).shiftRight(32).intValue();
            case 12: return y == 0 ? -1 : big(a).divide(big(y)).intValue();
            case 13: return y == 0 ? -1 : ua.divide(uy).intValue();
            case 14: return y == 0 ? a : big(a).remainder(big(y)).intValue();
            case 15: return y == 0 ? a : ua.remainder(uy).intValue();
            case 0x100: return ua.subtract(uy).intValue();
            default: return big(a).shiftRight(shift).intValue();
        }
    }

    private void system(int word, int f, int g, int a) throws Trap {
        if (word == 0x73 && mode == 0) {
            throw new Trap(8, 0);
        }
        if (word == 0x73) {
            ends = true;
            return;
        }
        if (word == 0x100073) {
            throw new Trap(3, pc);
        }
        boolean known = word == 0x10200073 || word == 0x10500073 || g == 9 && f == 0 && bits(word, 7, 11) == 0
            || f % 4 != 0 && controls.containsKey(bits(word, 20, 31));
        if (mode == 0 || !known) {
            throw new Trap(2, word);
        }
        if (word == 0x10200073) {
            next = controls.get(Asm.RETURN);
            mode = bit(controls.get(Asm.STATUS), 8);
            setControl(Asm.STATUS, bit(controls.get(Asm.STATUS), 18) << 18);
        } else if (f != 0) {
            changeControl(word, f, a);
        }
    }

    private void changeControl(int word, int f, int a) {
        int n = bits(word, 20, 31);
        int was = controls.get(n);
        int x = f > 4 ? bits(word, 15, 19) : a;
        if (f % 4 == 1) {
            setControl(n, x);
        } else if (bits(word, 15, 19) != 0) {
            setControl(n, f % 4 == 2 ? was | x : was & ~x);
        }
        write(word, was);
    }
}
