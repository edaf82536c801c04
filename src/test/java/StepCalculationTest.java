import java.math.BigInteger;

/** Promise 2, OP 13, 33, 37 and 17: what goes to register D, and which words are refused. */
public final class StepCalculationTest {
    private static final int MIN = Integer.MIN_VALUE;
    private static final int MAX = Integer.MAX_VALUE;
    private static final int[] VALUES = {
        0, 1, 2, 3, 7, 31, 32, 33, 63, 64, 100, 0x7fff, 0x8000, 0xffff, 0x10000, 0x12345678, MAX - 1, MAX,
        MIN, MIN + 1, 0x87654321, -100, -64, -33, -32, -31, -7, -3, -2, -1
    };

    public static void main(String[] args) {
        withRegisters();
        withNumbers();
        shiftsByNumbers();
        uppers();
        samePlaces();
        refusals();
        Check.done();
    }

    private static void withRegisters() {
        int[] gs = {0, 1, 0x20};
        for (int g : gs) {
            for (int f = 0; f < 8; f++) {
                if (g != 0x20 || f == 0 || f == 5) {
                    for (int a : VALUES) {
                        withRegisters(g, f, a);
                    }
                }
            }
        }
    }

    private static void withRegisters(int g, int f, int a) {
        PagedHart x = Asm.of(Asm.r(0x33, g, f, 3, 1, 2), Asm.jump(0, -4));
        x.setRegister(1, a);
        for (int y : VALUES) {
            x.setRegister(2, y);
            x.run(2);
            Check.same("G " + g + " F " + f + " of " + a + " and " + y, x.register(3), due(g, f, a, y));
        }
        Check.same("register 1 stays", x.register(1), a);
    }

    private static BigInteger big(int v, boolean signed) {
        return BigInteger.valueOf(signed ? v : Integer.toUnsignedLong(v));
    }

    private static int upper(int a, boolean aSigned, int y, boolean ySigned) {
        return big(a, aSigned).multiply(big(y, ySigned)).shiftRight(32).intValue();
    }

    private static int due(int g, int f, int a, int y) {
        if (g == 0) {
            return simple(f, a, y);
        }
        if (g == 0x20) {
            return f == 0 ? big(a, true).subtract(big(y, true)).intValue()
                : big(a, true).shiftRight(y & 31).intValue();
        }
        switch (f) {
            case 0: return big(a, true).multiply(big(y, true)).intValue();
            case 1: return upper(a, true, y, true);
            case 2: return upper(a, true, y, false);
            case 3: return upper(a, false, y, false);
            case 4: return y == 0 ? -1 : big(a, true).divide(big(y, true)).intValue();
            case 5: return y == 0 ? -1 : big(a, false).divide(big(y, false)).intValue();
            case 6: return y == 0 ? a : big(a, true).remainder(big(y, true)).intValue();
            default: return y == 0 ? a : big(a, false).remainder(big(y, false)).intValue();
        }
    }

    private static int simple(int f, int a, int y) {
        switch (f) {
            case 0: return big(a, true).add(big(y, true)).intValue();
            case 1: return big(a, true).shiftLeft(y & 31).intValue();
            case 2: return big(a, true).compareTo(big(y, true)) < 0 ? 1 : 0;
            case 3: return big(a, false).compareTo(big(y, false)) < 0 ? 1 : 0;
            case 4: return big(a, true).xor(big(y, true)).intValue();
            case 5: return big(a, false).shiftRight(y & 31).intValue();
            case 6: return big(a, true).or(big(y, true)).intValue();
            default: return big(a, true).and(big(y, true)).intValue();
        }
    }

    private static void withNumbers() {
        int[] numbers = {0, 1, 2, 0x555, 0x7ff, -0x800, -0x7ff, -2, -1};
        int[] fs = {0, 2, 3, 4, 6, 7};
        for (int f : fs) {
            for (int number : numbers) {
                PagedHart x = Asm.of(Asm.i(0x13, f, 3, 1, number), Asm.jump(0, -4));
                for (int a : VALUES) {
                    x.setRegister(1, a);
                    x.run(2);
                    Check.same("F " + f + " of " + a + " and the number " + number, x.register(3),
                        simple(f, a, number));
                }
            }
        }
    }

    private static void shiftsByNumbers() {
        for (int by = 0; by < 32; by++) {
            PagedHart x = Asm.of(Asm.r(0x13, 0, 1, 3, 1, by), Asm.r(0x13, 0, 5, 4, 1, by),
                Asm.r(0x13, 0x20, 5, 5, 1, by), Asm.jump(0, -12));
            for (int a : VALUES) {
                x.setRegister(1, a);
                x.run(4);
                Check.same(a + " << " + by, x.register(3), a << by);
                Check.same(a + " >>> " + by, x.register(4), a >>> by);
                Check.same(a + " >> " + by, x.register(5), a >> by);
            }
        }
    }

    private static void uppers() {
        int[] numbers = {0, 1, 0x80000, 0xfffff, 0x12345};
        for (int number : numbers) {
            PagedHart x = new PagedHart();
            Asm.put(x, 0x104, Asm.u(0x37, 1, number), Asm.u(0x17, 2, number));
            x.setRegister(Asm.PC, 0x104);
            x.run(2);
            Check.same("OP 37 of " + number, x.register(1), number << 12);
            Check.same("OP 17 of " + number, x.register(2), 0x108 + (number << 12));
            Check.same("PC", x.register(Asm.PC), 0x10c);
        }
    }

    private static void samePlaces() {
        PagedHart x = Asm.of(Asm.r(0x33, 0, 0, 31, 31, 31), Asm.r(0x33, 0x20, 0, 31, 31, 30), Asm.add(31, 31, -3));
        x.setRegister(31, 20);
        x.setRegister(30, 5);
        x.run(3);
        Check.same("register 31", x.register(31), 32);
    }

    private static void refusals() {
        for (int g = 0; g < 128; g++) {
            for (int f = 0; f < 8; f++) {
                boolean asRegisters = g == 0 || g == 1 || g == 0x20 && (f == 0 || f == 5);
                one(Asm.r(0x33, g, f, 3, 1, 2), asRegisters);
                boolean asNumber = f != 1 && f != 5 || g == 0 || g == 0x20 && f == 5;
                one(Asm.r(0x13, g, f, 3, 1, 2), asNumber);
            }
        }
    }

    private static void one(int word, boolean done) {
        PagedHart x = Asm.of(word);
        x.setRegister(3, 0x3333);
        x.setRegister(1, 0x1111);
        String what = "word " + Integer.toHexString(word);
        if (done) {
            Asm.doneDue(what, x, 4);
        } else {
            Asm.trapDue(what, x, 2, word, 0);
            Check.same(what + ": register 3", x.register(3), 0x3333);
        }
    }
}
