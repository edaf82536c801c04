/** Promises 9 and 10: control and setControl. */
public final class Promise09To10ControlTest {
    public static void main(String[] args) {
        bitsThatStayZero();
        eachIsApart();
        refusesOthers();
        Check.done();
    }

    private static int bitsOf(int n) {
        if (n == Asm.STATUS) {
            return 0x40100;
        }
        return n == Asm.VECTOR || n == Asm.RETURN ? 0xfffffffc : -1;
    }

    private static void bitsThatStayZero() {
        PagedHart x = new PagedHart();
        for (int n : Asm.CONTROLS) {
            x.setControl(n, -1);
            Check.same("control " + n + " set to -1", x.control(n), bitsOf(n));
            x.setControl(n, 0);
            Check.same("control " + n + " set to 0", x.control(n), 0);
            x.setControl(n, 0x5a5a5a5b);
            Check.same("control " + n + " set to bits", x.control(n), 0x5a5a5a5b & bitsOf(n));
        }
    }

    private static void eachIsApart() {
        PagedHart x = new PagedHart();
        for (int n : Asm.CONTROLS) {
            x.setControl(n, n << 8);
        }
        for (int n : Asm.CONTROLS) {
            Check.same("control " + n, x.control(n), n << 8 & bitsOf(n));
        }
        Check.same("mode", x.register(Asm.MODE), 1);
        Check.same("PC", x.register(Asm.PC), 0);
    }

    private static void refusesOthers() {
        // In several objects, as one answers 512 calls.
        for (int from = 0; from < 4096; from += 128) {
            PagedHart x = new PagedHart();
            for (int n = from; n < from + 128; n++) {
                if (!isControl(n)) {
                    refuses(x, n);
                }
            }
            for (int n : Asm.CONTROLS) {
                Check.same("control " + n + " after refusals", x.control(n),
                    n == Asm.TURN || n == Asm.WORK ? -1 : 0);
            }
        }
        PagedHart x = new PagedHart();
        refuses(x, -1);
        refuses(x, 0x1100);
        refuses(x, Integer.MIN_VALUE);
        refuses(x, Integer.MIN_VALUE | 0x100);
        refuses(x, Integer.MAX_VALUE);
    }

    private static boolean isControl(int n) {
        for (int one : Asm.CONTROLS) {
            if (one == n) {
                return true;
            }
        }
        return false;
    }

    private static void refuses(PagedHart x, int n) {
        Check.throwsNoSuch("control " + n, () -> x.control(n));
        Check.throwsNoSuch("setControl " + n, () -> x.setControl(n, 3));
    }
}
