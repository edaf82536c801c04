/** OP f and 73, and all words that are no instruction. */
public final class EdgeSystemTest {
    private static final int[] CONTROL_FS = {1, 2, 3, 5, 6, 7};

    public static void main(String[] args) {
        Check.sentence("OP f (F 0): nothing", EdgeSystemTest::fences);
        Check.sentence("the word 73: a call: in the user's mode a trap 8, VALUE 0", EdgeSystemTest::usersCall);
        Check.sentence("in the supervisor's it is done, and run ends", EdgeSystemTest::supervisorsCall);
        Check.sentence("The word 100073: a trap 3, VALUE the PC", EdgeSystemTest::breaks);
        Check.sentence("10200073: PC becomes RETURN, the mode PRIOR, PRIOR 0", EdgeSystemTest::returns);
        Check.sentence("words with G 9, F 0, D 0: nothing", EdgeSystemTest::tablesChanged);
        Check.sentence("10500073: nothing", EdgeSystemTest::waits);
        Check.sentence("In the supervisor's mode alone", EdgeSystemTest::supervisorsAlone);
        Check.sentence("d = what it was", EdgeSystemTest::whatItWas);
        Check.sentence("it becomes x with F 1 or 5", EdgeSystemTest::becomes);
        Check.sentence("its bits or x with 2 or 6", EdgeSystemTest::bitsSet);
        Check.sentence("its bits without those of x with 3 or 7", EdgeSystemTest::bitsCleared);
        Check.sentence("with 2, 3, 6, 7 and A 0 it stays", EdgeSystemTest::staysWithAZero);
        Check.sentence("x is a, or the number A itself for 5, 6, 7", EdgeSystemTest::numberOfA);
        Check.sentence("F 4 is none", EdgeSystemTest::fFour);
        Check.sentence("All others: a trap 2, VALUE the word: other OPs", EdgeSystemTest::otherOps);
        Check.sentence("All others: a trap 2, VALUE the word: other words of OP 73", EdgeSystemTest::otherSystemWords);
        Check.done();
    }

    private static PagedHart at(int mode, int word) {
        PagedHart x = new PagedHart();
        x.poke(0x100, word);
        x.setRegister(Asm.PC, 0x100);
        x.setRegister(Asm.MODE, mode);
        for (int i = 1; i < 32; i++) {
            x.setRegister(i, 0x1000 + i);
        }
        return x;
    }

    private static void registersStay(String what, PagedHart x) {
        for (int i = 1; i < 32; i++) {
            Check.same(what + ": register " + i, x.register(i), 0x1000 + i);
        }
    }

    private static void none(int mode, int word) {
        String what = Integer.toHexString(word) + " in mode " + mode;
        PagedHart x = at(mode, word);
        Asm.trapDue(what, x, 2, word, 0x100);
        registersStay(what, x);
        Check.same(what + ": SCRATCH", x.control(Asm.SCRATCH), 0);
        Check.same(what + ": WORK", x.control(Asm.WORK), -1);
    }

    private static void nothing(int mode, int word) {
        String what = Integer.toHexString(word) + " in mode " + mode;
        PagedHart x = at(mode, word);
        x.setControl(Asm.STATUS, 0x40100);
        x.setControl(Asm.RETURN, 0x2000);
        Asm.doneDue(what, x, 0x104);
        registersStay(what, x);
        Check.same(what + ": called", x.called(), false);
        Check.same(what + ": mode", x.register(Asm.MODE), mode);
        Check.same(what + ": STATUS", x.control(Asm.STATUS), 0x40100);
        Check.same(what + ": RETURN", x.control(Asm.RETURN), 0x2000);
        Check.same(what + ": TABLES", x.control(Asm.TABLES), 0);
    }

    private static void fences() {
        for (int mode = 0; mode < 2; mode++) {
            nothing(mode, 0xf);
            nothing(mode, 0x0ff0000f);
            nothing(mode, Asm.i(0xf, 0, 5, 6, -1));
            nothing(mode, Asm.i(0xf, 0, 31, 31, 0x7ff));
            for (int f = 1; f < 8; f++) {
                none(mode, Asm.i(0xf, f, 0, 0, 0));
                none(mode, Asm.i(0xf, f, 1, 1, 1));
            }
        }
    }

    private static void usersCall() {
        PagedHart x = at(0, Asm.CALL);
        x.setControl(Asm.VALUE, 99);
        x.setControl(Asm.WORK, 4);
        x.setControl(Asm.TURN, 5);
        Asm.trapDue("a user's call", x, 8, 0, 0x100);
        Check.same("called", x.called(), false);
        Check.same("WORK", x.control(Asm.WORK), 4);
        Check.same("TURN", x.control(Asm.TURN), 5);
        registersStay("a user's call", x);
    }

    private static void supervisorsCall() {
        PagedHart x = at(1, Asm.CALL);
        x.setControl(Asm.VALUE, 99);
        x.setControl(Asm.CAUSE, 98);
        x.setControl(Asm.STATUS, 0x40000);
        Check.same("run ends", x.run(20000), 1);
        Check.same("called", x.called(), true);
        Check.same("PC", x.register(Asm.PC), 0x104);
        Check.same("mode", x.register(Asm.MODE), 1);
        Check.same("CAUSE", x.control(Asm.CAUSE), 98);
        Check.same("VALUE", x.control(Asm.VALUE), 99);
        Check.same("RETURN", x.control(Asm.RETURN), 0);
        Check.same("STATUS", x.control(Asm.STATUS), 0x40000);
        registersStay("a supervisor's call", x);
        PagedHart y = new PagedHart();
        y.poke(262140, Asm.CALL);
        y.setRegister(Asm.PC, 262140);
        Check.same("a call in the last word", y.run(7), 1);
        Check.same("PC behind the last word", y.register(Asm.PC), 262144);
    }

    private static void breaks() {
        int[] places = {0, 4, 0x100, 262140};
        for (int mode = 0; mode < 2; mode++) {
            for (int place : places) {
                PagedHart x = new PagedHart();
                x.poke(place, Asm.BREAK);
                x.setRegister(Asm.PC, place);
                x.setRegister(Asm.MODE, mode);
                Asm.trapDue("a break at " + place, x, 3, place, place);
            }
        }
    }

    private static void returns() {
        int[] tos = {0, 4, 262140, 262144, -4, Integer.MIN_VALUE};
        for (int to : tos) {
            for (int prior = 0; prior < 2; prior++) {
                for (int sum = 0; sum < 2; sum++) {
                    PagedHart x = at(1, Asm.TRAP_RETURN);
                    x.setControl(Asm.RETURN, to | 3);
                    x.setControl(Asm.STATUS, sum << 18 | prior << 8);
                    Asm.doneDue("a return to " + to, x, to);
                    Check.same("mode", x.register(Asm.MODE), prior);
                    Check.same("STATUS", x.control(Asm.STATUS), sum << 18);
                    Check.same("RETURN", x.control(Asm.RETURN), to);
                    registersStay("a return", x);
                }
            }
        }
        // A second return, from the supervisor's mode with PRIOR 0 now, leads to the user's.
        PagedHart y = at(1, Asm.TRAP_RETURN);
        y.setControl(Asm.RETURN, 0x100);
        y.setControl(Asm.STATUS, 0x100);
        y.run(1);
        Check.same("mode after one return", y.register(Asm.MODE), 1);
        y.run(1);
        Check.same("mode after two returns", y.register(Asm.MODE), 0);
        Asm.trapDue("a third return", y, 2, Asm.TRAP_RETURN, 0x100);
    }

    private static void tablesChanged() {
        int[][] places = {{0, 0}, {31, 0}, {0, 31}, {31, 31}, {5, 6}};
        for (int[] place : places) {
            nothing(1, Asm.r(0x73, 9, 0, 0, place[0], place[1]));
            none(0, Asm.r(0x73, 9, 0, 0, place[0], place[1]));
        }
        for (int d = 1; d < 32; d++) {
            none(1, Asm.r(0x73, 9, 0, d, 0, 0));
        }
        for (int g = 1; g < 128; g++) {
            if (g != 9) {
                none(1, Asm.r(0x73, g, 0, 0, 0, 0));
            }
        }
    }

    private static void waits() {
        nothing(1, Asm.WAIT);
        none(0, Asm.WAIT);
    }

    private static void supervisorsAlone() {
        none(0, Asm.TRAP_RETURN);
        for (int n : Asm.CONTROLS) {
            for (int f : CONTROL_FS) {
                none(0, Asm.control(f, 1, 0, n));
                none(0, Asm.control(f, 0, 1, n));
            }
        }
    }

    private static void control(String what, int word, int was, int due, int d) {
        PagedHart x = at(1, word);
        x.setControl(Asm.SCRATCH, was);
        x.setRegister(7, 0x0ff0f00f);
        Asm.doneDue(what, x, 0x104);
        Check.same(what + ": control", x.control(Asm.SCRATCH), due);
        Check.same(what + ": d", x.register(d), was);
    }

    private static void whatItWas() {
        int[] wases = {0, -1, Integer.MIN_VALUE, 0x12345678};
        for (int f : CONTROL_FS) {
            for (int was : wases) {
                PagedHart x = at(1, Asm.control(f, 31, 7, Asm.SCRATCH));
                x.setControl(Asm.SCRATCH, was);
                Asm.doneDue("F " + f, x, 0x104);
                Check.same("F " + f + ": d", x.register(31), was);
                // D 0: it changes all the same.
                PagedHart y = at(1, Asm.control(f, 0, 7, Asm.SCRATCH));
                y.setControl(Asm.SCRATCH, was);
                Asm.doneDue("F " + f + " with D 0", y, 0x104);
                Check.same("F " + f + " with D 0", y.control(Asm.SCRATCH), x.control(Asm.SCRATCH));
                Check.same("register 0", y.register(0), 0);
            }
        }
        // x is a as it was when D is A.
        PagedHart z = at(1, Asm.control(1, 7, 7, Asm.SCRATCH));
        z.setControl(Asm.SCRATCH, 55);
        z.run(1);
        Check.same("exchanged: register", z.register(7), 55);
        Check.same("exchanged: control", z.control(Asm.SCRATCH), 0x1007);
    }

    private static void becomes() {
        control("F 1", Asm.control(1, 2, 7, Asm.SCRATCH), -1, 0x0ff0f00f, 2);
        control("F 5", Asm.control(5, 2, 7, Asm.SCRATCH), -1, 7, 2);
        control("F 1 with A 0", Asm.control(1, 2, 0, Asm.SCRATCH), -1, 0, 2);
        control("F 5 with A 0", Asm.control(5, 2, 0, Asm.SCRATCH), -1, 0, 2);
    }

    private static void bitsSet() {
        control("F 2", Asm.control(2, 2, 7, Asm.SCRATCH), 0x12345678, 0x1ff4f67f, 2);
        control("F 6", Asm.control(6, 2, 7, Asm.SCRATCH), 0x12345678, 0x1234567f, 2);
        control("F 6 with A 31", Asm.control(6, 2, 31, Asm.SCRATCH), 0, 31, 2);
    }

    private static void bitsCleared() {
        control("F 3", Asm.control(3, 2, 7, Asm.SCRATCH), 0x12345678, 0x12345678 & ~0x0ff0f00f, 2);
        control("F 7", Asm.control(7, 2, 7, Asm.SCRATCH), -1, -8, 2);
        control("F 7 with A 31", Asm.control(7, 2, 31, Asm.SCRATCH), -1, -32, 2);
    }

    private static void staysWithAZero() {
        int[] fs = {2, 3, 6, 7};
        for (int f : fs) {
            control("F " + f + " with A 0", Asm.control(f, 2, 0, Asm.SCRATCH), 0x5a5a5a5a, 0x5a5a5a5a, 2);
            control("F " + f + " with A 0", Asm.control(f, 2, 0, Asm.SCRATCH), -1, -1, 2);
            // A register that holds 0 changes no bit either.
            PagedHart x = at(1, Asm.control(f & 3, 2, 9, Asm.SCRATCH));
            x.setRegister(9, 0);
            x.setControl(Asm.SCRATCH, 77);
            x.run(1);
            Check.same("F " + (f & 3) + " with a 0", x.control(Asm.SCRATCH), 77);
        }
    }

    private static void numberOfA() {
        for (int a = 0; a < 32; a++) {
            control("F 5 with A " + a, Asm.control(5, 2, a, Asm.SCRATCH), 0x100, a, 2);
            control("F 6 with A " + a, Asm.control(6, 2, a, Asm.SCRATCH), 0x100, 0x100 | a, 2);
            control("F 7 with A " + a, Asm.control(7, 2, a, Asm.SCRATCH), 0x11f, 0x11f & ~a, 2);
        }
    }

    private static void fFour() {
        for (int n : Asm.CONTROLS) {
            for (int mode = 0; mode < 2; mode++) {
                none(mode, Asm.control(4, 1, 1, n));
                none(mode, Asm.control(4, 0, 0, n));
            }
        }
    }

    private static void otherOps() {
        int[] known = {0x37, 0x17, 0x6f, 0x67, 0x63, 3, 0x23, 0x13, 0x33, 0xf, 0x73};
        for (int op = 0; op < 128; op++) {
            boolean is = false;
            for (int one : known) {
                is |= one == op;
            }
            for (int mode = 0; mode < 2 && !is; mode++) {
                none(mode, op);
                none(mode, -128 | op);
                none(mode, Asm.r(op, 0, 0, 1, 2, 3));
            }
        }
    }

    private static void otherSystemWords() {
        int[] known = {Asm.CALL, Asm.BREAK, Asm.TRAP_RETURN, Asm.WAIT};
        for (int mode = 0; mode < 2; mode++) {
            for (int word : known) {
                // Each of the other bits but those of F makes it another word.
                for (int bit = 7; bit < 32; bit++) {
                    int other = word ^ 1 << bit;
                    boolean is = bit >= 12 && bit < 15 || (other & 0xfe007fff) == 0x12000073;
                    for (int one : known) {
                        is |= one == other;
                    }
                    if (!is) {
                        none(mode, other);
                    }
                }
            }
            for (int n = 0; n < 0x200; n++) {
                if (n != 0 && n != 1 && n != 0x102 && n != 0x105 && n >> 5 != 9) {
                    none(mode, n << 20 | 0x73);
                }
            }
            none(mode, 0x30200073);
            none(mode, 0xfff00073);
        }
    }
}
