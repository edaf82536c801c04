/** "There are 32 REGISTERS ..; register 0 is always 0 ..", the PC, the mode, and promises 7 and 8. */
public final class EdgeRegisterTest {
    private static final int MIN = Integer.MIN_VALUE;
    private static final int MAX = Integer.MAX_VALUE;

    public static void main(String[] args) {
        Check.sentence("There are 32 registers, 0 .. 31", EdgeRegisterTest::thirtyTwo);
        Check.sentence("register 0 is always 0 (setRegister)", EdgeRegisterTest::zeroIsNotSet);
        Check.sentence("register 0 is always 0 (what an instruction writes into it is gone)",
            EdgeRegisterTest::zeroIsNotWritten);
        Check.sentence("register 0 is always 0 (also as a and b)", EdgeRegisterTest::zeroIsRead);
        Check.sentence("a load into register 0 is a load: its traps come", EdgeRegisterTest::loadIntoZeroTraps);
        Check.sentence("register: the PC for 32", EdgeRegisterTest::pcIsAnyWord);
        Check.sentence("setRegister: the mode for 33 (its lowest bit)", EdgeRegisterTest::modeIsOneBit);
        Check.sentence("a MODE: 0 user's, 1 supervisor's", EdgeRegisterTest::modesAreTwo);
        Check.sentence("D, A and B name any of the 32", EdgeRegisterTest::placesInAWord);
        Check.done();
    }

    private static void thirtyTwo() {
        int[] values = {MIN, -1, 1, MAX};
        for (int v : values) {
            PagedHart x = new PagedHart();
            for (int i = 1; i < 32; i++) {
                x.setRegister(i, v);
                Check.same("register " + i, x.register(i), v);
                Check.same("the one behind register " + i, x.register(i + 1), 0);
            }
            for (int i = 0; i < 34; i++) {
                int due = i == 0 || i == 32 ? 0 : i == 33 ? 1 : v;
                Check.same("register " + i + " at last", x.register(i), due);
            }
        }
    }

    private static void zeroIsNotSet() {
        PagedHart x = new PagedHart();
        State before = State.of(x);
        int[] values = {1, -1, MIN, MAX, 0};
        for (int v : values) {
            x.setRegister(0, v);
            before.due("setRegister(0, " + v + ")", x);
        }
    }

    private static void zeroIsNotWritten() {
        int[] words = {
            Asm.u(0x37, 0, 0x12345), Asm.u(0x17, 0, 0x12345), Asm.jump(0, 8), Asm.jumpTo(0, 0, 0x20),
            Asm.load(0, 0, 0, 0x200), Asm.load(1, 0, 0, 0x200), Asm.load(2, 0, 0, 0x200),
            Asm.load(4, 0, 0, 0x200), Asm.load(5, 0, 0, 0x200),
            Asm.add(0, 0, -1), Asm.i(0x13, 6, 0, 0, 7), Asm.r(0x13, 0, 1, 0, 1, 3),
            Asm.r(0x33, 0, 0, 0, 1, 1), Asm.r(0x33, 0x20, 0, 0, 0, 1), Asm.r(0x33, 1, 0, 0, 1, 1),
            Asm.r(0x33, 1, 4, 0, 1, 0), Asm.control(1, 0, 1, Asm.SCRATCH), Asm.control(6, 0, 1, Asm.SCRATCH)
        };
        for (int word : words) {
            PagedHart x = new PagedHart();
            x.poke(0x100, word);
            x.poke(0x200, 0x7f8182f3);
            x.setRegister(1, 0x77);
            x.setControl(Asm.SCRATCH, 0x55);
            x.setRegister(Asm.PC, 0x100);
            x.run(1);
            Check.same("CAUSE of " + Integer.toHexString(word), x.control(Asm.CAUSE), 0);
            Check.same("register 0 after " + Integer.toHexString(word), x.register(0), 0);
        }
        PagedHart y = Asm.of(Asm.jump(0, 8), 0, Asm.control(1, 0, 1, Asm.SCRATCH));
        y.setRegister(1, 5);
        y.run(2);
        Check.same("a jump with D 0 and a control written with D 0", y.register(Asm.PC), 12);
        Check.same("a control written with D 0", y.control(Asm.SCRATCH), 5);
    }

    private static void zeroIsRead() {
        PagedHart x = Asm.of(Asm.add(0, 0, 9), Asm.r(0x33, 0, 0, 3, 0, 0), Asm.s(2, 0, 0, 0x200),
            Asm.branch(0, 0, 1, 8), Asm.jumpTo(2, 0, 0x40));
        x.setRegister(0, 9);
        x.setRegister(1, 9);
        x.setRegister(3, 9);
        x.poke(0x200, 9);
        x.run(5);
        Check.same("register 0 + register 0", x.register(3), 0);
        Check.same("register 0 stored", x.peek(0x200), 0);
        Check.same("register 0 is not 9, and a jump by it", x.register(Asm.PC), 0x40);
    }

    private static void loadIntoZeroTraps() {
        Asm.trapDue("misaligned", Asm.of(Asm.load(2, 0, 0, 2)), 4, 2, 0);
        Asm.trapDue("access", Asm.of(Asm.load(2, 0, 0, -4)), 5, -4, 0);
    }

    private static void pcIsAnyWord() {
        PagedHart x = new PagedHart();
        int[] values = {0, 1, 2, 3, 4, 262140, 262143, 262144, -1, -4, MIN, MAX};
        for (int v : values) {
            x.setRegister(32, v);
            Check.same("PC", x.register(32), v);
            Check.same("mode", x.register(33), 1);
            Check.same("register 31", x.register(31), 0);
        }
    }

    private static void modeIsOneBit() {
        int[] values = {0, 1, 2, 3, 4, 0x100, 0x101, -1, -2, MIN, MIN + 1, MAX, MAX - 1};
        for (int v : values) {
            for (int before = 0; before < 2; before++) {
                PagedHart x = new PagedHart();
                x.setRegister(33, before);
                x.setRegister(33, v);
                Check.same("mode set to " + v, x.register(33), v % 2 == 0 ? 0 : 1);
                Check.same("PC", x.register(32), 0);
                Check.same("STATUS", x.control(Asm.STATUS), 0);
            }
        }
    }

    private static void modesAreTwo() {
        PagedHart x = Asm.of(Asm.CALL);
        x.setRegister(33, 2);
        Asm.trapDue("a call with the mode set to 2", x, 8, 0, 0);
        PagedHart y = Asm.of(Asm.CALL);
        y.setRegister(33, -1);
        Asm.doneDue("a call with the mode set to -1", y, 4);
        Check.same("called", y.called(), true);
    }

    private static void placesInAWord() {
        for (int i = 1; i < 32; i++) {
            PagedHart x = Asm.of(Asm.r(0x33, 0x20, 0, i, 0, i), Asm.r(0x33, 0x20, 0, 32 - i, i, 0));
            x.setRegister(i, 5);
            x.run(1);
            Check.same("register " + i + " as B and D", x.register(i), -5);
            x.run(1);
            Check.same("register " + i + " as A", x.register(32 - i), -5);
            for (int k = 1; k < 32; k++) {
                if (k != i && k != 32 - i) {
                    Check.same("register " + k + " beside " + i, x.register(k), 0);
                }
            }
        }
    }
}
