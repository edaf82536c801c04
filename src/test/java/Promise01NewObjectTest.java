/** Promise 1: all words and registers 0, PC 0, the supervisor's mode; TURN and WORK -1. */
public final class Promise01NewObjectTest {
    public static void main(String[] args) {
        wordsAreZero();
        registersAreZero();
        controlsAreAtFirst();
        objectsAreApart();
        Check.same("NONE", PagedHart.NONE, -1);
        Check.done();
    }

    private static void wordsAreZero() {
        // An object answers 512 calls, so each looks at a part of the memory.
        for (int part = 0; part < 256; part++) {
            PagedHart x = new PagedHart();
            for (int k = 0; k < 256; k++) {
                int address = 4 * (256 * part + k);
                Check.same("peek " + address, x.peek(address), 0);
            }
        }
    }

    private static void registersAreZero() {
        PagedHart x = new PagedHart();
        for (int i = 0; i <= 32; i++) {
            Check.same("register " + i, x.register(i), 0);
        }
        Check.same("mode", x.register(33), 1);
        Check.same("called", x.called(), false);
    }

    private static void controlsAreAtFirst() {
        PagedHart x = new PagedHart();
        for (int n : Asm.CONTROLS) {
            Check.same("control " + n, x.control(n), n == Asm.TURN || n == Asm.WORK ? -1 : 0);
        }
    }

    private static void objectsAreApart() {
        PagedHart x = new PagedHart();
        PagedHart y = new PagedHart();
        x.poke(0, 5);
        x.setRegister(1, 6);
        x.setRegister(32, 8);
        x.setRegister(33, 0);
        x.setControl(Asm.WORK, 7);
        Check.same("another's word", y.peek(0), 0);
        Check.same("another's register", y.register(1), 0);
        Check.same("another's PC", y.register(32), 0);
        Check.same("another's mode", y.register(33), 1);
        Check.same("another's control", y.control(Asm.WORK), -1);
    }
}
