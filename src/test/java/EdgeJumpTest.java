/** OP 6f, 67, 63, and U: the farthest distances, wrap-arounds, addresses that can't be divided by 4. */
public final class EdgeJumpTest {
    private static final int MIN = Integer.MIN_VALUE;
    private static final int MAX = Integer.MAX_VALUE;

    public static void main(String[] args) {
        Check.sentence("J (times 2) bits 31, 12 .. 19, 20, 21 .. 30, the highest first", EdgeJumpTest::jumpDistances);
        Check.sentence("C (times 2) bits 31, 7, 25 .. 30, 8 .. 11", EdgeJumpTest::branchDistances);
        Check.sentence("U bits 12 .. 31, times 4096", EdgeJumpTest::uppers);
        Check.sentence("17: d = PC + U (wraps)", EdgeJumpTest::upperOfPc);
        Check.sentence("6f: d = PC + 4, PC becomes PC + J (wraps)", EdgeJumpTest::jumps);
        Check.sentence("67: PC becomes a + I (wraps)", EdgeJumpTest::jumpsByRegister);
        Check.sentence("67: without its lowest bit", EdgeJumpTest::lowestBit);
        Check.sentence("67: a as it was", EdgeJumpTest::registerAsItWas);
        Check.sentence("67 (F 0): other F are none", EdgeJumpTest::otherFs);
        Check.sentence("63: F 0 a = b, 1 not so", EdgeJumpTest::equals);
        Check.sentence("63: 4 a < b, 5 not so", EdgeJumpTest::less);
        Check.sentence("63: 6 a < b without a sign, 7 not so", EdgeJumpTest::lessWithoutSign);
        Check.sentence("63: F 2 and 3 are none", EdgeJumpTest::otherBranches);
        Check.sentence("To an address that can't be divided by 4: a misaligned trap 0, VALUE that address", EdgeJumpTest::misaligned);
        Check.sentence("nothing is written", EdgeJumpTest::nothingIsWritten);
        Check.sentence("a branch that is not taken goes nowhere", EdgeJumpTest::notTaken);
        Check.sentence("a jump out of the memory is done; the next fetch traps", EdgeJumpTest::outOfMemory);
        Check.done();
    }

    private static PagedHart at(int pc, int word) {
        PagedHart x = new PagedHart();
        x.poke(pc, word);
        x.setRegister(Asm.PC, pc);
        return x;
    }

    private static void jumpDistances() {
        Asm.doneDue("the farthest back", at(0x100, Asm.jump(0, -0x100000)), 0xfff00100);
        Asm.doneDue("the farthest on", at(0x100, Asm.jump(0, 0xffffc)), 0x1000fc);
        Asm.trapDue("the greatest J", at(0x100, Asm.jump(0, 0xffffe)), 0, 0x1000fe, 0x100);
        Asm.trapDue("J = -1", at(0x100, Asm.jump(0, -2)), 0, 0xfe, 0x100);
        Asm.trapDue("J = 1", at(0x100, Asm.jump(0, 2)), 0, 0x102, 0x100);
        Asm.doneDue("J = 0", at(0x100, Asm.jump(0, 0)), 0x100);
        for (int bit = 2; bit < 20; bit++) {
            Asm.doneDue("bit " + bit, at(0x100, Asm.jump(0, 1 << bit)), 0x100 + (1 << bit));
            Asm.doneDue("bit " + bit + ", back", at(0x100, Asm.jump(0, -1 << bit)), 0x100 - (1 << bit));
        }
        // The words themselves, bit by bit.
        Asm.doneDue("bit 31", at(0x100, 0x8000006f), 0xfff00100);
        Asm.doneDue("bit 12", at(0x100, 0x0000106f), 0x1100);
        Asm.doneDue("bit 19", at(0x100, 0x0008006f), 0x80100);
        Asm.doneDue("bit 20", at(0x100, 0x0010006f), 0x900);
        Asm.trapDue("bit 21", at(0x100, 0x0020006f), 0, 0x102, 0x100);
        Asm.doneDue("bit 30", at(0x100, 0x4000006f), 0x500);
    }

    private static void branchDistances() {
        Asm.doneDue("the farthest back", at(0x2000, Asm.branch(0, 0, 0, -4096)), 0x1000);
        Asm.doneDue("the farthest on", at(0x2000, Asm.branch(0, 0, 0, 4092)), 0x2ffc);
        Asm.trapDue("the greatest C", at(0x2000, Asm.branch(0, 0, 0, 4094)), 0, 0x2ffe, 0x2000);
        Asm.trapDue("C = -1", at(0x2000, Asm.branch(0, 0, 0, -2)), 0, 0x1ffe, 0x2000);
        Asm.doneDue("C = 0", at(0x2000, Asm.branch(0, 0, 0, 0)), 0x2000);
        Asm.doneDue("bit 31", at(0x2000, 0x80000063), 0x1000);
        Asm.doneDue("bit 7", at(0x2000, 0x000000e3), 0x2800);
        Asm.doneDue("bit 25", at(0x2000, 0x02000063), 0x2020);
        Asm.doneDue("bit 30", at(0x2000, 0x40000063), 0x2400);
        Asm.trapDue("bit 8", at(0x2000, 0x00000163), 0, 0x2002, 0x2000);
        Asm.doneDue("bit 9", at(0x2000, 0x00000263), 0x2004);
        Asm.doneDue("bit 11", at(0x2000, 0x00000863), 0x2010);
        Asm.doneDue("around 0", at(0x10, Asm.branch(0, 0, 0, -0x20)), -0x10);
    }

    private static void uppers() {
        int[] uppers = {0, 1, 0x7ffff, 0x80000, 0xfffff};
        for (int upper : uppers) {
            PagedHart x = at(0x100, Asm.u(0x37, 1, upper));
            x.setRegister(1, 99);
            Asm.doneDue("U " + upper, x, 0x104);
            Check.same("U " + upper, x.register(1), upper * 4096);
        }
    }

    private static void upperOfPc() {
        int[] uppers = {0, 1, 0x7ffff, 0x80000, 0xfffff};
        int[] places = {0, 0x1100, 0x3fffc};
        for (int place : places) {
            for (int upper : uppers) {
                PagedHart x = at(place, Asm.u(0x17, 1, upper));
                x.setRegister(1, 99);
                Asm.doneDue("U " + upper, x, place + 4);
                Check.same("PC + U " + upper, x.register(1), (int) (place + upper * 4096L));
            }
        }
    }

    private static void jumps() {
        PagedHart x = at(0x3fffc, Asm.jump(31, -0x3fffc));
        Asm.doneDue("from the last word to 0", x, 0);
        Check.same("d", x.register(31), 0x40000);
        PagedHart y = at(0, Asm.jump(1, -4));
        Asm.doneDue("from 0 back", y, -4);
        Check.same("d", y.register(1), 4);
        PagedHart z = at(0x40, Asm.jump(1, 0));
        z.run(3);
        Check.same("a jump to itself", z.register(Asm.PC), 0x40);
        Check.same("d", z.register(1), 0x44);
    }

    private static void byRegister(String what, int a, int number, int due) {
        PagedHart x = at(0x100, Asm.jumpTo(2, 1, number));
        x.setRegister(1, a);
        x.setRegister(2, 99);
        Asm.doneDue(what, x, due);
        Check.same(what + ": d", x.register(2), 0x104);
        Check.same(what + ": a", x.register(1), a);
    }

    private static void jumpsByRegister() {
        byRegister("the greatest I", 1, 2047, 0x800);
        byRegister("the least I", 0, -2048, -2048);
        byRegister("around the end", -4, 8, 4);
        byRegister("around 0", 4, -8, -4);
        byRegister("over the sign", MAX, 1, MIN);
        byRegister("back over the sign", MIN, -4, MAX - 3);
        byRegister("I 0", 0x3fffc, 0, 0x3fffc);
    }

    private static void lowestBit() {
        byRegister("a odd", 0x201, 0, 0x200);
        byRegister("I odd", 0x200, 1, 0x200);
        byRegister("both odd, a sum of 4", 0x201, 3, 0x204);
        byRegister("-1 and 2", -1, 2, 0);
        byRegister("-1 and 1", -1, 1, 0);
        byRegister("-3 and 0", -3, 0, -4);
        PagedHart x = at(0x100, Asm.jumpTo(2, 1, 0));
        x.setRegister(1, 0x203);
        Asm.trapDue("203", x, 0, 0x202, 0x100);
        x.setRegister(1, 0x202);
        x.setRegister(Asm.PC, 0x100);
        Asm.trapDue("202", x, 0, 0x202, 0x100);
        x.setRegister(1, -1);
        x.setRegister(Asm.PC, 0x100);
        Asm.trapDue("-1", x, 0, -2, 0x100);
    }

    private static void registerAsItWas() {
        PagedHart x = at(0x100, Asm.jumpTo(1, 1, 4));
        x.setRegister(1, 0x300);
        Asm.doneDue("D = A", x, 0x304);
        Check.same("d", x.register(1), 0x104);
    }

    private static void otherFs() {
        for (int f = 1; f < 8; f++) {
            int word = Asm.i(0x67, f, 1, 0, 0x40);
            PagedHart x = at(0x100, word);
            x.setRegister(1, 99);
            Asm.trapDue("F " + f, x, 2, word, 0x100);
            Check.same("register 1", x.register(1), 99);
        }
    }

    private static void branches(int f, int a, int b, boolean taken) {
        PagedHart x = at(0x100, Asm.branch(f, 1, 2, 0x40));
        x.setRegister(1, a);
        x.setRegister(2, b);
        Asm.doneDue("F " + f + " of " + a + " and " + b, x, taken ? 0x140 : 0x104);
        Check.same("a", x.register(1), a);
        Check.same("b", x.register(2), b);
    }

    private static void bothWays(int f, int a, int b, boolean taken) {
        branches(f, a, b, taken);
        branches(f + 1, a, b, !taken);
    }

    private static void equals() {
        bothWays(0, 0, 0, true);
        bothWays(0, -1, -1, true);
        bothWays(0, MIN, MIN, true);
        bothWays(0, 0, MIN, false);
        bothWays(0, 1, -1, false);
        bothWays(0, MAX, MIN, false);
        bothWays(0, 0x10000, 0, false);
    }

    private static void less() {
        bothWays(4, 0, 0, false);
        bothWays(4, MIN, MAX, true);
        bothWays(4, MAX, MIN, false);
        bothWays(4, -1, 0, true);
        bothWays(4, 0, -1, false);
        bothWays(4, MIN, MIN + 1, true);
        bothWays(4, MIN, MIN, false);
        bothWays(4, MAX - 1, MAX, true);
    }

    private static void lessWithoutSign() {
        bothWays(6, 0, 0, false);
        bothWays(6, MIN, MAX, false);
        bothWays(6, MAX, MIN, true);
        bothWays(6, -1, 0, false);
        bothWays(6, 0, -1, true);
        bothWays(6, -2, -1, true);
        bothWays(6, -1, -1, false);
        bothWays(6, MIN, MIN + 1, true);
    }

    private static void otherBranches() {
        for (int f = 2; f < 4; f++) {
            for (int b = 0; b < 2; b++) {
                int word = Asm.branch(f, 0, b, 0x40);
                PagedHart x = at(0x100, word);
                x.setRegister(1, 5);
                Asm.trapDue("F " + f, x, 2, word, 0x100);
            }
        }
    }

    private static void misaligned() {
        int[] distances = {2, -2, 6, 0x7fe, -0x7fe};
        for (int mode = 0; mode < 2; mode++) {
            for (int distance : distances) {
                PagedHart x = at(0x1000, Asm.jump(0, distance));
                x.setRegister(Asm.MODE, mode);
                Asm.trapDue("a jump by " + distance, x, 0, 0x1000 + distance, 0x1000);
                PagedHart y = at(0x1000, Asm.branch(5, 0, 0, distance));
                y.setRegister(Asm.MODE, mode);
                Asm.trapDue("a branch by " + distance, y, 0, 0x1000 + distance, 0x1000);
                PagedHart z = at(0x1000, Asm.jumpTo(0, 1, distance));
                z.setRegister(1, 0x1000);
                z.setRegister(Asm.MODE, mode);
                Asm.trapDue("a jump to 1000 and " + distance, z, 0, 0x1000 + distance, 0x1000);
            }
        }
        Asm.trapDue("a jump around", at(0, Asm.jump(0, -2)), 0, -2, 0);
        Asm.trapDue("a branch around", at(0, Asm.branch(0, 0, 0, -2)), 0, -2, 0);
    }

    private static void nothingIsWritten() {
        int[] words = {Asm.jump(1, 2), Asm.jumpTo(1, 1, 2), Asm.jumpTo(1, 0, 2), Asm.branch(0, 0, 0, 2)};
        for (int word : words) {
            PagedHart x = at(0x100, word);
            x.setRegister(1, 0x200);
            x.setRegister(Asm.MODE, 0);
            x.setControl(Asm.WORK, 5);
            x.setControl(Asm.TURN, 6);
            x.run(1);
            Check.same("register 1", x.register(1), 0x200);
            Check.same("WORK", x.control(Asm.WORK), 5);
            Check.same("TURN", x.control(Asm.TURN), 6);
            for (int i = 2; i < 32; i++) {
                Check.same("register " + i, x.register(i), 0);
            }
        }
    }

    private static void notTaken() {
        Asm.doneDue("by 2", at(0x100, Asm.branch(1, 0, 0, 2)), 0x104);
        Asm.doneDue("by 4094", at(0x100, Asm.branch(4, 0, 0, 4094)), 0x104);
        Asm.doneDue("by -2", at(0, Asm.branch(6, 0, 0, -2)), 4);
        Asm.doneDue("out of the memory", at(0x3fffc, Asm.branch(1, 0, 0, 8)), 0x40000);
    }

    private static void outOfMemory() {
        PagedHart x = at(0x3fffc, Asm.jump(1, 4));
        Asm.doneDue("a jump behind the memory", x, 0x40000);
        Check.same("d", x.register(1), 0x40000);
        Asm.trapDue("the fetch there", x, 1, 0x40000, 0x40000);
        PagedHart y = at(0, Asm.branch(0, 0, 0, -4));
        Asm.doneDue("a branch before 0", y, -4);
        Asm.trapDue("the fetch there", y, 1, -4, -4);
    }
}
