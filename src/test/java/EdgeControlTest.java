/** The controls, the bits of them that are always 0, and promises 9 and 10. */
public final class EdgeControlTest {
    private static final int[] NEIGHBOURS = {
        0, 0xff, 0x101, 0x104, 0x106, 0x13f, 0x144, 0x17f, 0x181, 0x5bf, 0x5c2, 0x300, 0x305, 0x341, 0xc00, 0xfff
    };

    public static void main(String[] args) {
        Check.sentence("All are 0 at first, but TURN and WORK -1", EdgeControlTest::atFirst);
        Check.sentence("STATUS (bit 8: PRIOR, bit 18: SUM; all others are always 0)",
            () -> bitByBit(Asm.STATUS, 1 << 8 | 1 << 18));
        Check.sentence("VECTOR (its bits 0 and 1 are always 0)", () -> bitByBit(Asm.VECTOR, ~3));
        Check.sentence("RETURN (bits 0 and 1 always 0)", () -> bitByBit(Asm.RETURN, ~3));
        Check.sentence("SCRATCH, CAUSE, VALUE, TABLES, TURN, WORK: all bits", EdgeControlTest::wholeOnes);
        Check.sentence("always 0: when instructions write", EdgeControlTest::byInstructions);
        Check.sentence("always 0: RETURN when a trap writes it", EdgeControlTest::returnByTraps);
        Check.sentence("always 0: STATUS when a trap and a return write it", EdgeControlTest::statusByTraps);
        Check.sentence("control: a control, and no other; setControl too", EdgeControlTest::apart);
        Check.sentence("control number n, one of those above: others are no instruction", EdgeControlTest::noNumbers);
        Check.done();
    }

    private static int atFirstOf(int n) {
        return n == Asm.TURN || n == Asm.WORK ? -1 : 0;
    }

    private static void atFirst() {
        PagedHart x = new PagedHart();
        for (int n : Asm.CONTROLS) {
            Check.same("control " + n, x.control(n), atFirstOf(n));
        }
        for (int n : Asm.CONTROLS) {
            // As a program sees it.
            PagedHart y = Asm.of(Asm.control(2, 1, 0, n));
            y.setRegister(1, 99);
            y.run(1);
            Check.same("control " + n + " read by an instruction", y.register(1), atFirstOf(n));
        }
    }

    private static void bitByBit(int n, int free) {
        PagedHart x = new PagedHart();
        for (int k = 0; k < 32; k++) {
            x.setControl(n, 1 << k);
            Check.same("bit " + k + " alone of control " + n, x.control(n), 1 << k & free);
            x.setControl(n, ~(1 << k));
            Check.same("all but bit " + k + " of control " + n, x.control(n), ~(1 << k) & free);
        }
        x.setControl(n, -1);
        Check.same("all bits of control " + n, x.control(n), free);
        x.setControl(n, 0);
        Check.same("no bit of control " + n, x.control(n), 0);
    }

    private static void wholeOnes() {
        int[] numbers = {Asm.SCRATCH, Asm.CAUSE, Asm.VALUE, Asm.TABLES, Asm.TURN, Asm.WORK};
        for (int n : numbers) {
            bitByBit(n, -1);
        }
    }

    private static int freeBits(int n) {
        if (n == Asm.STATUS) {
            return 0x40100;
        }
        return n == Asm.VECTOR || n == Asm.RETURN ? -4 : -1;
    }

    private static void byInstructions() {
        int[] numbers = {Asm.STATUS, Asm.VECTOR, Asm.RETURN};
        for (int n : numbers) {
            // Written, or-ed, and both with the number 31 of A itself; d is what it was, with the 0s.
            int[] words = {Asm.control(1, 2, 1, n), Asm.control(2, 2, 1, n), Asm.control(5, 2, 31, n), Asm.control(6, 2, 31, n)};
            int[] dues = {freeBits(n), freeBits(n), 31 & freeBits(n), 31 & freeBits(n)};
            for (int k = 0; k < words.length; k++) {
                PagedHart x = Asm.of(words[k], Asm.control(2, 3, 0, n), Asm.control(3, 3, 1, n), Asm.control(2, 4, 0, n));
                x.setRegister(1, -1);
                x.setRegister(4, 99);
                x.run(1);
                Check.same("control " + n + " way " + k, x.control(n), dues[k]);
                x.run(1);
                Check.same("control " + n + " read, way " + k, x.register(3), dues[k]);
                x.run(2);
                Check.same("control " + n + " emptied, way " + k, x.register(4), 0);
            }
        }
    }

    private static void returnByTraps() {
        for (int low = 0; low < 4; low++) {
            PagedHart x = new PagedHart();
            x.setRegister(Asm.PC, 0x200 + low);
            x.run(1);
            Check.same("RETURN of a trap at 200 and " + low, x.control(Asm.RETURN), 0x200);
            Check.same("VALUE", x.control(Asm.VALUE), low == 0 ? 0 : 0x200 + low);
        }
        PagedHart y = new PagedHart();
        y.setRegister(Asm.PC, -1);
        y.run(1);
        Check.same("RETURN of a trap at the last address", y.control(Asm.RETURN), -4);
        Check.same("VALUE of a trap at the last address", y.control(Asm.VALUE), -1);
    }

    private static void statusByTraps() {
        for (int sum = 0; sum < 2; sum++) {
            for (int mode = 0; mode < 2; mode++) {
                PagedHart x = new PagedHart();
                x.poke(0, Asm.BREAK);
                x.poke(0x100, Asm.TRAP_RETURN);
                x.setControl(Asm.VECTOR, 0x100);
                x.setControl(Asm.STATUS, ~(1 << 18) | sum << 18);
                x.setRegister(Asm.MODE, mode);
                x.run(1);
                Check.same("STATUS behind a trap", x.control(Asm.STATUS), sum << 18 | mode << 8);
                x.run(1);
                Check.same("STATUS behind a return", x.control(Asm.STATUS), sum << 18);
                Check.same("mode behind a return", x.register(Asm.MODE), mode);
            }
        }
    }

    private static void apart() {
        for (int n : Asm.CONTROLS) {
            PagedHart x = new PagedHart();
            x.setControl(n, 0x7ffffffc);
            for (int other : Asm.CONTROLS) {
                int due = other == n ? 0x7ffffffc & freeBits(n) : atFirstOf(other);
                Check.same("control " + other + " when " + n + " is written", x.control(other), due);
            }
            for (int i = 0; i < 34; i++) {
                Check.same("register " + i + " when control " + n + " is written", x.register(i), i == 33 ? 1 : 0);
            }
        }
    }

    private static void noNumbers() {
        int[] fs = {1, 2, 3, 5, 6, 7};
        for (int n : NEIGHBOURS) {
            for (int f : fs) {
                int word = Asm.control(f, 1, 1, n);
                PagedHart x = Asm.of(word);
                x.setRegister(1, 3);
                Asm.trapDue("control " + n + " F " + f, x, 2, word, 0);
                Check.same("register 1", x.register(1), 3);
                for (int other : Asm.CONTROLS) {
                    if (other == Asm.SCRATCH || other == Asm.TABLES || other == Asm.TURN || other == Asm.WORK) {
                        Check.same("control " + other, x.control(other), atFirstOf(other));
                    }
                }
            }
        }
    }
}
