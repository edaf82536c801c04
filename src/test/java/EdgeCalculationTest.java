/** OP 13 and 33: wrap-arounds, signs, shifts by 0, 31, 32 and more, divisions by 0, and the words that are none. */
public final class EdgeCalculationTest {
    private static final int MIN = Integer.MIN_VALUE;
    private static final int MAX = Integer.MAX_VALUE;

    public static void main(String[] args) {
        Check.sentence("Arithmetic wraps: a + y", () -> rows(0, 0, new int[][] {
            {MAX, 1, MIN}, {MIN, -1, MAX}, {-1, 1, 0}, {MIN, MIN, 0}, {MAX, MAX, -2}, {0, 0, 0}}));
        Check.sentence("Arithmetic wraps: a - y", () -> rows(0x20, 0, new int[][] {
            {MIN, 1, MAX}, {MAX, -1, MIN}, {0, MIN, MIN}, {0, 1, -1}, {MIN, MIN, 0}, {-1, MAX, MIN}}));
        Check.sentence("a < y", () -> rows(0, 2, new int[][] {
            {MIN, MAX, 1}, {MAX, MIN, 0}, {-1, 0, 1}, {0, -1, 0}, {0, 0, 0}, {MIN, MIN, 0}, {MIN, MIN + 1, 1}}));
        Check.sentence("a < y without a sign", () -> rows(0, 3, new int[][] {
            {MIN, MAX, 0}, {MAX, MIN, 1}, {-1, 0, 0}, {0, -1, 1}, {0, 0, 0}, {-1, -1, 0}, {-2, -1, 1}}));
        Check.sentence("a ^ y, a | y, a & y: all bits", EdgeCalculationTest::bits);
        Check.sentence("a << y by the lowest five bits of b", () -> rows(0, 1, new int[][] {
            {1, 0, 1}, {1, 31, MIN}, {1, 32, 1}, {1, 33, 2}, {3, 31, MIN}, {1, -1, MIN}, {5, MIN, 5}, {1, 63, MIN}, {-1, 64, -1}}));
        Check.sentence("a >>> y by the lowest five bits of b", () -> rows(0, 5, new int[][] {
            {MIN, 0, MIN}, {MIN, 31, 1}, {MIN, 32, MIN}, {-1, 1, MAX}, {-1, 33, MAX}, {-1, -1, 1}, {-1, MIN, -1}, {MIN, 63, 1}}));
        Check.sentence("a >> y by the lowest five bits of b", () -> rows(0x20, 5, new int[][] {
            {MIN, 0, MIN}, {MIN, 31, -1}, {MIN, 32, MIN}, {MAX, 31, 0}, {MAX, 30, 1}, {-2, 33, -1}, {MIN, -1, -1}, {MIN, 63, -1}}));
        Check.sentence("a * y: wraps", () -> rows(1, 0, new int[][] {
            {MIN, MIN, 0}, {MIN, -1, MIN}, {0x10000, 0x10000, 0}, {-1, -1, 1}, {MAX, MAX, 1}, {MAX, 2, -2}, {0, MIN, 0}}));
        Check.sentence("the upper 32 bits, both with a sign", () -> rows(1, 1, new int[][] {
            {MIN, MIN, 0x40000000}, {MIN, MAX, 0xc0000000}, {-1, -1, 0}, {-1, 1, -1}, {MAX, MAX, 0x3fffffff},
            {MIN, -1, 0}, {MIN, 1, -1}, {0, MIN, 0}, {0x10000, 0x10000, 1}}));
        Check.sentence("the upper 32 bits, a with a sign", () -> rows(1, 2, new int[][] {
            {-1, -1, -1}, {MIN, -1, MIN}, {MAX, -1, 0x7ffffffe}, {1, -1, 0}, {-1, 1, -1}, {MIN, MIN, 0xc0000000},
            {-1, MIN, -1}, {MAX, MIN, 0x3fffffff}, {0, -1, 0}, {-1, 0, 0}}));
        Check.sentence("the upper 32 bits, both without a sign", () -> rows(1, 3, new int[][] {
            {-1, -1, -2}, {MIN, MIN, 0x40000000}, {-1, 1, 0}, {1, -1, 0}, {MIN, 2, 1}, {-1, 2, 1}, {-1, MIN, MAX}, {0, -1, 0}}));
        Check.sentence("a / y (by 0: all bits 1; -2 to the 31 by -1: that)", () -> rows(1, 4, new int[][] {
            {0, 0, -1}, {7, 0, -1}, {-7, 0, -1}, {MIN, 0, -1}, {MAX, 0, -1}, {MIN, -1, MIN}, {MAX, -1, -MAX}, {MIN + 1, -1, MAX},
            {MIN, 1, MIN}, {-7, 2, -3}, {7, -2, -3}, {-7, -2, 3}, {1, MIN, 0}, {MIN, MIN, 1}, {0, -1, 0}}));
        Check.sentence("a / y without sign (by 0: all bits 1)", () -> rows(1, 5, new int[][] {
            {0, 0, -1}, {7, 0, -1}, {MIN, 0, -1}, {-1, 0, -1}, {MIN, -1, 0}, {-1, -1, 1}, {-1, 1, -1}, {-1, MIN, 1},
            {MIN, 2, 0x40000000}, {-1, 2, MAX}, {MAX, MIN, 0}, {-2, -1, 0}}));
        Check.sentence("the rest (by 0: a; -2 to the 31 by -1: 0)", () -> rows(1, 6, new int[][] {
            {0, 0, 0}, {7, 0, 7}, {-7, 0, -7}, {MIN, 0, MIN}, {MIN, -1, 0}, {MAX, -1, 0}, {-7, 2, -1}, {7, -2, 1}, {-7, -2, -1},
            {7, 2, 1}, {1, MIN, 1}, {MIN, MAX, -1}, {MAX, MIN, MAX}}));
        Check.sentence("the rest without sign (by 0: a)", () -> rows(1, 7, new int[][] {
            {0, 0, 0}, {7, 0, 7}, {-7, 0, -7}, {MIN, 0, MIN}, {MIN, -1, MIN}, {-1, -1, 0}, {-1, MIN, MAX}, {-1, 2, 1},
            {-2, -1, -2}, {MIN, 3, 2}}));
        Check.sentence("OP 13: I from -2048 to 2047, with a sign", EdgeCalculationTest::numbers);
        Check.sentence("OP 13: shifts by B, 0 .. 31", EdgeCalculationTest::shiftsByB);
        Check.sentence("OP 13: 1 (G 0), 5 (G 0), (G 20): with another G none", EdgeCalculationTest::otherGsOfShifts);
        Check.sentence("OP 33: G 0, 1, 20: with another G none", EdgeCalculationTest::otherGs);
        Check.sentence("OP 33: G 20: F 0 and 5: with another F none", EdgeCalculationTest::otherFsOfG20);
        Check.sentence("d goes to D when that is A, B or both", EdgeCalculationTest::sameRegisters);
        Check.done();
    }

    private static PagedHart at(int word, int a, int b) {
        PagedHart x = new PagedHart();
        x.poke(0x100, word);
        x.setRegister(Asm.PC, 0x100);
        x.setRegister(1, a);
        x.setRegister(2, b);
        x.setRegister(3, 0x33333333);
        return x;
    }

    private static void one(String what, int word, int a, int b, int due) {
        PagedHart x = at(word, a, b);
        Asm.doneDue(what, x, 0x104);
        Check.same(what, x.register(3), due);
        Check.same(what + ": a stays", x.register(1), a);
        Check.same(what + ": b stays", x.register(2), b);
    }

    /** Rows of a, y and what is due; also where each register holds both, if both are the same. */
    private static void rows(int g, int f, int[][] rows) {
        for (int[] row : rows) {
            String what = "G " + g + " F " + f + " of " + row[0] + " and " + row[1];
            one(what, Asm.r(0x33, g, f, 3, 1, 2), row[0], row[1], row[2]);
            if (row[0] == row[1]) {
                one(what + " in one", Asm.r(0x33, g, f, 3, 1, 1), row[0], 5, row[2]);
            }
            if (row[1] == 0) {
                one(what + " by register 0", Asm.r(0x33, g, f, 3, 1, 0), row[0], 5, row[2]);
            }
        }
    }

    private static void bits() {
        int[] values = {0, -1, MIN, MAX, 0x55555555, 0xaaaaaaaa};
        for (int a : values) {
            for (int y : values) {
                int xor = 0;
                int or = 0;
                int and = 0;
                for (int k = 0; k < 32; k++) {
                    int ones = (a >>> k & 1) + (y >>> k & 1);
                    xor |= (ones == 1 ? 1 : 0) << k;
                    or |= (ones > 0 ? 1 : 0) << k;
                    and |= (ones == 2 ? 1 : 0) << k;
                }
                rows(0, 4, new int[][] {{a, y, xor}});
                rows(0, 6, new int[][] {{a, y, or}});
                rows(0, 7, new int[][] {{a, y, and}});
            }
        }
    }

    private static void number(int f, int a, int number, int due) {
        one("F " + f + " of " + a + " and the number " + number, Asm.i(0x13, f, 3, 1, number), a, 5, due);
    }

    private static void numbers() {
        number(0, 0, 2047, 2047);
        number(0, 0, -2048, -2048);
        number(0, MAX, 1, MIN);
        number(0, MAX, 2047, MIN + 2046);
        number(0, MIN, -1, MAX);
        number(0, MIN, -2048, MAX - 2047);
        number(2, -2049, -2048, 1);
        number(2, -2048, -2048, 0);
        number(2, 2046, 2047, 1);
        number(2, 2047, 2047, 0);
        number(2, MIN, 0, 1);
        number(2, MAX, -1, 0);
        // Without a sign, -2048 is a great number.
        number(3, 2047, -2048, 1);
        number(3, -2049, -2048, 1);
        number(3, -2048, -2048, 0);
        number(3, -1, -1, 0);
        number(3, 0, -1, 1);
        number(3, 0, 1, 1);
        number(3, 1, 1, 0);
        number(3, MIN, 2047, 0);
        number(4, 0x0f0f0f0f, -1, 0xf0f0f0f0);
        number(4, 0, -2048, 0xfffff800);
        number(6, 0, -2048, 0xfffff800);
        number(6, MIN, 2047, 0x800007ff);
        number(7, -1, -2048, 0xfffff800);
        number(7, -1, 2047, 0x7ff);
        number(7, MIN, -1, MIN);
        for (int k = 0; k < 12; k++) {
            one("bit " + k + " of I", 1 << 20 + k | Asm.i(0x13, 0, 3, 1, 0), 0, 5, k == 11 ? -2048 : 1 << k);
        }
    }

    private static void shiftsByB() {
        int[] values = {1, -1, MIN, MAX, 0x80000001};
        for (int a : values) {
            for (int by = 0; by < 32; by++) {
                long without = a & 0xffffffffL;
                one(a + " << " + by, Asm.r(0x13, 0, 1, 3, 1, by), a, 5, (int) (without * (1L << by)));
                one(a + " >>> " + by, Asm.r(0x13, 0, 5, 3, 1, by), a, 5, (int) (without / (1L << by)));
                one(a + " >> " + by, Asm.r(0x13, 0x20, 5, 3, 1, by), a, 5, (int) Math.floorDiv((long) a, 1L << by));
            }
        }
    }

    private static void none(String what, int word) {
        PagedHart x = at(word, 6, 2);
        Asm.trapDue(what, x, 2, word, 0x100);
        Check.same(what + ": register 3", x.register(3), 0x33333333);
    }

    private static void otherGsOfShifts() {
        for (int g = 1; g < 128; g++) {
            none("F 1 G " + g, Asm.r(0x13, g, 1, 3, 1, 2));
            if (g != 0x20) {
                none("F 5 G " + g, Asm.r(0x13, g, 5, 3, 1, 2));
            }
        }
    }

    private static void otherGs() {
        for (int g = 2; g < 128; g++) {
            for (int f = 0; f < 8; f++) {
                if (g != 0x20) {
                    none("F " + f + " G " + g, Asm.r(0x33, g, f, 3, 1, 2));
                }
            }
        }
    }

    private static void otherFsOfG20() {
        int[] fs = {1, 2, 3, 4, 6, 7};
        for (int f : fs) {
            none("F " + f + " G 20", Asm.r(0x33, 0x20, f, 3, 1, 2));
        }
    }

    private static void sameRegisters() {
        PagedHart x = at(Asm.r(0x33, 0x20, 0, 1, 1, 2), 9, 2);
        Asm.doneDue("D = A", x, 0x104);
        Check.same("D = A", x.register(1), 7);
        PagedHart y = at(Asm.r(0x33, 0x20, 0, 2, 1, 2), 9, 2);
        Asm.doneDue("D = B", y, 0x104);
        Check.same("D = B", y.register(2), 7);
        PagedHart z = at(Asm.r(0x33, 1, 0, 1, 1, 1), 9, 2);
        Asm.doneDue("D = A = B", z, 0x104);
        Check.same("D = A = B", z.register(1), 81);
    }
}
