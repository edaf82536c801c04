/** Promise 2, OP 6f, 67 and 63: where the PC goes. */
public final class StepJumpTest {
    private static final int[] VALUES = {0, 1, 5, Integer.MAX_VALUE, Integer.MIN_VALUE, -5, -1};

    public static void main(String[] args) {
        jumps();
        jumpsByRegister();
        branchConditions();
        branchDistances();
        misaligned();
        refusals();
        wrapping();
        Check.done();
    }

    private static void jumps() {
        int[] distances = {0, 4, -4, 8, 0x7fc, 0x800, 0xffc, 0x1000, 0xff000, 0x80000, 0xffffc, -0x800, -0x1000, -0x100000};
        for (int distance : distances) {
            PagedHart x = new PagedHart();
            x.poke(0x2000, Asm.jump(5, distance));
            x.setRegister(Asm.PC, 0x2000);
            Asm.doneDue("jump by " + distance, x, 0x2000 + distance);
            Check.same("register 5", x.register(5), 0x2004);
        }
    }

    private static void jumpsByRegister() {
        int[] numbers = {0, 4, 0x7fc, -4, -0x800, 1, 5};
        for (int number : numbers) {
            PagedHart x = new PagedHart();
            x.poke(0x100, Asm.jumpTo(5, 6, number));
            x.setRegister(Asm.PC, 0x100);
            x.setRegister(6, 0x3000);
            Asm.doneDue("jump to a register and " + number, x, 0x3000 + number & ~1);
            Check.same("register 5", x.register(5), 0x104);
        }
        PagedHart x = Asm.of(Asm.jumpTo(6, 6, 8));
        x.setRegister(6, 0x401);
        Asm.doneDue("jump by the register that it writes", x, 0x408);
        Check.same("register 6", x.register(6), 4);
    }

    private static boolean holds(int f, int a, int b) {
        switch (f) {
            case 0: return a == b;
            case 1: return a != b;
            case 4: return a < b;
            case 5: return a >= b;
            case 6: return Integer.compareUnsigned(a, b) < 0;
            default: return Integer.compareUnsigned(a, b) >= 0;
        }
    }

    private static void branchConditions() {
        int[] fs = {0, 1, 4, 5, 6, 7};
        for (int f : fs) {
            for (int a : VALUES) {
                for (int b : VALUES) {
                    PagedHart x = Asm.of(Asm.branch(f, 1, 2, 0x40));
                    x.setRegister(1, a);
                    x.setRegister(2, b);
                    Asm.doneDue("branch F " + f + " of " + a + " and " + b, x, holds(f, a, b) ? 0x40 : 4);
                }
            }
        }
    }

    private static void branchDistances() {
        int[] distances = {0, 4, -4, 0x1c, 0x20, 0x7fc, 0x800, 0xffc, -0x800, -0x804, -0x1000};
        for (int distance : distances) {
            PagedHart x = new PagedHart();
            x.poke(0x2000, Asm.branch(0, 0, 0, distance));
            x.setRegister(Asm.PC, 0x2000);
            Asm.doneDue("branch by " + distance, x, 0x2000 + distance);
        }
    }

    private static void misaligned() {
        PagedHart x = Asm.of(Asm.jump(5, 6));
        x.setRegister(5, 9);
        Asm.trapDue("jump by 6", x, 0, 6, 0);
        Check.same("register 5", x.register(5), 9);

        PagedHart y = new PagedHart();
        y.poke(8, Asm.jumpTo(5, 6, 3));
        y.setRegister(5, 9);
        y.setRegister(6, 0x100);
        y.setRegister(Asm.PC, 8);
        Asm.trapDue("jump to 0x103", y, 0, 0x102, 8);
        Check.same("register 5", y.register(5), 9);

        PagedHart z = new PagedHart();
        z.pokeFour(0, Asm.branch(1, 0, 0, 6), Asm.branch(0, 0, 0, -2), 0, 0);
        z.setRegister(Asm.MODE, 0);
        z.setControl(Asm.WORK, 9);
        z.setControl(Asm.TURN, 9);
        Asm.doneDue("branch by 6 that does not go there", z, 4);
        Asm.trapDue("branch by -2", z, 0, 2, 4);
        Check.same("WORK", z.control(Asm.WORK), 8);
        Check.same("TURN", z.control(Asm.TURN), 8);
    }

    private static void refusals() {
        for (int f = 0; f < 8; f++) {
            int word = Asm.i(0x67, f, 5, 0, 0x40);
            PagedHart x = Asm.of(word);
            if (f == 0) {
                Asm.doneDue("OP 67", x, 0x40);
            } else {
                Asm.trapDue("OP 67 F " + f, x, 2, word, 0);
                Check.same("register 5", x.register(5), 0);
            }
        }
        for (int f = 2; f < 4; f++) {
            int word = Asm.branch(f, 0, 0, 0x40);
            Asm.trapDue("OP 63 F " + f, Asm.of(word), 2, word, 0);
        }
    }

    private static void wrapping() {
        PagedHart x = Asm.of(Asm.jump(1, -4));
        Asm.doneDue("jump below 0", x, -4);
        Asm.trapDue("fetch at -4", x, 1, -4, -4);

        // The last page of all addresses is the first of the memory.
        PagedHart y = new PagedHart();
        y.poke(0x2ffc, 3 << 10 | 1);
        y.poke(0x3ffc, 0xcf);
        y.poke(0xff8, Asm.jump(1, 4));
        y.poke(0xffc, Asm.jump(2, 4));
        y.setControl(Asm.TABLES, 0x80000002);
        y.setRegister(Asm.PC, -8);
        Asm.doneDue("jump at -8", y, -4);
        Check.same("register 1", y.register(1), -4);
        Asm.doneDue("jump at -4", y, 0);
        Check.same("register 2", y.register(2), 0);
    }
}
