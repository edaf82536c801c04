import java.util.Random;

/** Random programs in random pages: every run must leave the class where the reference is. */
public final class ReferenceTest {
    private static final int OBJECTS = 6000;
    private static final int[] HARD = {
        0, 1, 2, 3, 4, -1, -2, -4, 31, 32, Integer.MIN_VALUE, Integer.MAX_VALUE, 0x3fffc, 0x40000, 0x1000, 0x2000, 0x3000
    };
    private static final int[] OPS = {
        0x37, 0x17, 0x6f, 0x67, 0x63, 0x63, 3, 3, 3, 0x23, 0x23, 0x23, 0x13, 0x13, 0x13, 0x33, 0x33, 0x33, 0xf, 0x73, 0x73, 0x73
    };

    private final Random random;
    private final String name;
    private final PagedHart x = new PagedHart();
    private final Reference y = new Reference();

    private ReferenceTest(int seed) {
        random = new Random(seed);
        name = "object " + seed;
    }

    public static void main(String[] args) {
        for (int seed = 0; seed < OBJECTS; seed++) {
            ReferenceTest t = new ReferenceTest(seed);
            t.prepare();
            for (int k = 0; k < 4; k++) {
                t.runAndCompare();
            }
            t.compareMemory();
        }
        Check.done();
    }

    private int pick(int... ones) {
        return ones[random.nextInt(ones.length)];
    }

    private boolean often(int percent) {
        return random.nextInt(100) < percent;
    }

    private void poke(int address, int v) {
        x.poke(address, v);
        y.poke(address, v);
    }

    private void setControl(int n, int v) {
        x.setControl(n, v);
        y.setControl(n, v);
    }

    /** Code at 0 and 0x1000, a first table at 0x2000, second tables at 0x3000 and 0x4000. */
    private void prepare() {
        for (int k = 0; k < 24; k++) {
            poke(4 * k, word());
            poke(0x1000 + 4 * k, word());
        }
        for (int k = 0; k < 4; k++) {
            poke(0x2000 + 4 * k, often(70) ? pick(3, 4) << 10 | 1 : entry(0));
        }
        poke(0x2ffc, pick(3, 4) << 10 | 1);
        for (int k = 0; k < 8; k++) {
            poke(0x3000 + 4 * k, entry(often(70) ? k : random.nextInt(70)));
            poke(0x4000 + 4 * k, entry(often(50) ? k : random.nextInt(70)));
        }
        poke(0x3ffc, entry(1));
        for (int i = 1; i < 32; i++) {
            int v = often(50) ? pick(HARD) : often(70) ? address() : random.nextInt();
            x.setRegister(i, v);
            y.registers[i] = v;
        }
        setControl(Asm.VECTOR, pick(0, 0x1000, 0x1010, 0x20, 0x400000, 0x401000));
        setControl(Asm.RETURN, pick(0, 0x1000, 0x1010, 0x20, 0x400000, 0x401000));
        setControl(Asm.STATUS, random.nextInt());
        setControl(Asm.SCRATCH, random.nextInt());
        setControl(Asm.TABLES, often(70) ? 0x80000002 | random.nextInt() & 0x7ff00000 : 2);
        setControl(Asm.TURN, pick(-1, -2, 0, 1, 2, 5, 9, 30));
        setControl(Asm.WORK, pick(-1, -2, 0, 1, 3, 7, 20, 50));
        setMode(random.nextInt(2));
        setPc(pick(0, 0, 0x1000, 0x400000, 0x401000));
    }

    private void setMode(int mode) {
        x.setRegister(Asm.MODE, mode);
        y.mode = mode;
    }

    private void setPc(int pc) {
        x.setRegister(Asm.PC, pc);
        y.pc = pc;
    }

    private int entry(int frame) {
        int bits = often(80) ? pick(0xcf, 0xdf, 0xcf, 0xdf, 0x47, 0xd7, 0x4b, 0x5b) : random.nextInt(1024);
        int high = often(90) ? 0 : pick(0x40000000, 0x80000000, 0x100000);
        return frame << 10 | bits | high;
    }

    private int address() {
        int base = pick(0, 0, 0x1000, 0x2000, 0x3000, 0x4000, 0x400000, 0x800000, 0xfffff000);
        return base + 4 * random.nextInt(24) + (often(15) ? random.nextInt(4) : 0);
    }

    private int word() {
        if (often(2)) {
            return random.nextInt();
        }
        int op = pick(OPS);
        int d = random.nextInt(32);
        int f = random.nextInt(8);
        int a = random.nextInt(32);
        int b = random.nextInt(32);
        switch (op) {
            case 0x6f:
                return Asm.jump(d, often(95) ? 4 * (random.nextInt(12) - 4) : 2 * (random.nextInt(80000) - 40000));
            case 0x67:
                return Asm.i(op, often(90) ? 0 : f, d, often(50) ? 0 : a, 4 * random.nextInt(24) + (often(10) ? random.nextInt(4) : 0));
            case 0x63:
                return Asm.branch(f, a, often(20) ? a : b, often(90) ? 4 * (random.nextInt(12) - 4) : 2 * (random.nextInt(100) - 50));
            case 3:
                return Asm.load(f, d, a, often(70) ? 4 * (random.nextInt(20) - 6) : random.nextInt());
            case 0x23:
                return Asm.s(often(90) ? random.nextInt(3) : f, a, b, often(70) ? 4 * (random.nextInt(20) - 6) : random.nextInt());
            case 0x13:
                return Asm.r(op, often(60) ? pick(0, 0x20) : random.nextInt(128), f, d, a, b);
            case 0x33:
                return Asm.r(op, often(95) ? pick(0, 0, 1, 1, 0x20) : random.nextInt(128), f, d, a, b);
            case 0xf:
                return Asm.i(op, often(80) ? 0 : f, d, a, random.nextInt());
            case 0x73:
                return systemWord(d, f, a, b);
            default:
                return Asm.u(op, d, random.nextInt());
        }
    }

    private int systemWord(int d, int f, int a, int b) {
        if (often(50)) {
            return Asm.control(f, d, often(30) ? 0 : a, often(95) ? pick(Asm.CONTROLS) : random.nextInt(4096));
        }
        if (often(20)) {
            return Asm.r(0x73, 9, 0, often(90) ? 0 : d, a, b);
        }
        return pick(Asm.CALL, Asm.BREAK, Asm.TRAP_RETURN, Asm.TRAP_RETURN, Asm.TRAP_RETURN, Asm.WAIT);
    }

    private void runAndCompare() {
        int most = pick(1, 2, 3, 5, 8, 13, 40, 100);
        Check.same(name + " run " + most, x.run(most), y.run(most));
        Check.same(name + " called", x.called(), y.called);
        for (int i = 0; i < 32; i++) {
            Check.same(name + " register " + i, x.register(i), y.registers[i]);
        }
        Check.same(name + " PC", x.register(Asm.PC), y.pc);
        Check.same(name + " mode", x.register(Asm.MODE), y.mode);
        for (int n : Asm.CONTROLS) {
            Check.same(name + " control " + n, x.control(n), y.controls.get(n));
        }
        for (int k = 0; k < 5; k++) {
            int address = address();
            int how = random.nextInt(3);
            Check.same(name + " translate " + address + " how " + how, x.translate(address, how), y.translate(address, how));
        }
        if (often(20)) {
            setMode(random.nextInt(2));
        }
        if (often(20)) {
            setControl(Asm.TABLES, pick(0, 0x80000002));
        }
        if (often(20)) {
            setPc(address());
        }
    }

    private void compareMemory() {
        int[] pages = {0, 0x1000, 0x2000, 0x3000, 0x4000};
        for (int page : pages) {
            for (int k = 0; k < 24; k++) {
                int at = page + 4 * k;
                Check.same(name + " peek " + at, x.peek(at), y.peek(at));
            }
        }
    }
}
