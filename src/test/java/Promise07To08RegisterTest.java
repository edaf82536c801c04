/** Promises 7 and 8: register and setRegister. */
public final class Promise07To08RegisterTest {
    private static final int[] NO_REGISTERS = {-1, 34, 35, 64, Integer.MIN_VALUE, Integer.MAX_VALUE};

    public static void main(String[] args) {
        writesEach();
        registerZeroStays();
        modeIsTheLowestBit();
        pcTakesAll();
        refusesOthers();
        Check.done();
    }

    private static void writesEach() {
        PagedHart x = new PagedHart();
        for (int i = 1; i <= 32; i++) {
            x.setRegister(i, -1000 * i);
        }
        for (int i = 1; i <= 32; i++) {
            Check.same("register " + i, x.register(i), -1000 * i);
        }
        Check.same("register 0", x.register(0), 0);
        Check.same("mode", x.register(33), 1);
    }

    private static void registerZeroStays() {
        PagedHart x = Asm.of(Asm.add(0, 0, 9), Asm.u(0x37, 0, 5), Asm.load(2, 0, 0, 0), Asm.add(1, 0, 3),
            Asm.control(1, 0, 1, Asm.SCRATCH), Asm.jump(0, 4));
        x.setRegister(0, 9);
        Check.same("register 0", x.register(0), 0);
        for (int k = 0; k < 6; k++) {
            x.run(1);
            Check.same("register 0 after an instruction", x.register(0), 0);
        }
        Check.same("register 1, 3 more than register 0", x.register(1), 3);
    }

    private static void modeIsTheLowestBit() {
        PagedHart x = new PagedHart();
        int[] values = {0, 1, 2, 3, -1, -2, Integer.MIN_VALUE, Integer.MAX_VALUE};
        for (int v : values) {
            x.setRegister(33, v);
            Check.same("mode set to " + v, x.register(33), v & 1);
        }
    }

    private static void pcTakesAll() {
        PagedHart x = new PagedHart();
        int[] values = {1, 2, 3, 4, -1, Integer.MIN_VALUE, 262144};
        for (int v : values) {
            x.setRegister(32, v);
            Check.same("PC set to " + v, x.register(32), v);
        }
    }

    private static void refusesOthers() {
        PagedHart x = new PagedHart();
        for (int i : NO_REGISTERS) {
            Check.throwsIndex("register " + i, () -> x.register(i));
            Check.throwsIndex("setRegister " + i, () -> x.setRegister(i, 6));
        }
        for (int i = 0; i <= 33; i++) {
            Check.same("register " + i + " after refusals", x.register(i), i == 33 ? 1 : 0);
        }
    }
}
