/** Promise 2, OP f and 73 and all words of no instruction, in both modes. */
public final class StepSystemTest {
    public static void main(String[] args) {
        nothings();
        calls();
        breaks();
        trapReturns();
        tablesChanged();
        supervisorsAlone();
        controlChanges();
        controlsKeepTheirBits();
        controlsOfNoNumber();
        otherOps();
        otherSystemWords();
        Check.done();
    }

    private static PagedHart inMode(int mode, int word) {
        PagedHart x = new PagedHart();
        x.poke(0x100, word);
        x.setRegister(Asm.PC, 0x100);
        x.setRegister(Asm.MODE, mode);
        x.setRegister(1, 0x1001);
        return x;
    }

    private static void refused(int mode, int word) {
        Asm.trapDue("word " + Integer.toHexString(word) + " in mode " + mode, inMode(mode, word), 2, word, 0x100);
    }

    private static void done(int mode, int word) {
        PagedHart x = inMode(mode, word);
        String what = "word " + Integer.toHexString(word) + " in mode " + mode;
        Asm.doneDue(what, x, 0x104);
        Check.same(what + ": mode", x.register(Asm.MODE), mode);
        Check.same(what + ": STATUS", x.control(Asm.STATUS), 0);
    }

    private static void nothings() {
        for (int mode = 0; mode < 2; mode++) {
            done(mode, 0x0f);
            done(mode, 0x0ff0000f);
            done(mode, Asm.i(0x0f, 0, 1, 1, -1));
            for (int f = 1; f < 8; f++) {
                refused(mode, Asm.i(0x0f, f, 0, 0, 0));
            }
        }
        PagedHart x = inMode(1, Asm.i(0x0f, 0, 1, 1, -1));
        x.run(1);
        Check.same("register 1 after OP f", x.register(1), 0x1001);
    }

    private static void calls() {
        PagedHart x = inMode(1, Asm.CALL);
        Check.same("run", x.run(5), 1);
        Check.same("called", x.called(), true);
        Check.same("PC", x.register(Asm.PC), 0x104);
        Asm.trapDue("a user's call", inMode(0, Asm.CALL), 8, 0, 0x100);
    }

    private static void breaks() {
        Asm.trapDue("a user's break", inMode(0, Asm.BREAK), 3, 0x100, 0x100);
        Asm.trapDue("a supervisor's break", inMode(1, Asm.BREAK), 3, 0x100, 0x100);
    }

    private static void trapReturns() {
        for (int prior = 0; prior < 2; prior++) {
            PagedHart x = inMode(1, Asm.TRAP_RETURN);
            x.setControl(Asm.RETURN, 0x1237);
            x.setControl(Asm.STATUS, 0x40000 | prior << 8);
            Asm.doneDue("return from a trap", x, 0x1234);
            Check.same("mode", x.register(Asm.MODE), prior);
            Check.same("STATUS", x.control(Asm.STATUS), 0x40000);
            Check.same("RETURN", x.control(Asm.RETURN), 0x1234);
        }
        refused(0, Asm.TRAP_RETURN);
    }

    private static void tablesChanged() {
        int[] words = {0x12000073, Asm.r(0x73, 9, 0, 0, 1, 0), Asm.r(0x73, 9, 0, 0, 31, 31)};
        for (int word : words) {
            done(1, word);
            refused(0, word);
        }
        for (int d = 1; d < 32; d++) {
            refused(1, Asm.r(0x73, 9, 0, d, 0, 0));
        }
        refused(1, Asm.r(0x73, 9, 4, 0, 0, 0));
        refused(1, Asm.r(0x73, 8, 0, 0, 0, 0));
        refused(1, Asm.r(0x73, 11, 0, 0, 0, 0));
    }

    private static void supervisorsAlone() {
        done(1, Asm.WAIT);
        refused(0, Asm.WAIT);
        for (int n : Asm.CONTROLS) {
            for (int f = 1; f < 8; f++) {
                int word = Asm.control(f, 1, 0, n);
                PagedHart x = inMode(0, word);
                x.setControl(Asm.WORK, 5);
                Asm.trapDue("a user's control " + n + " F " + f, x, 2, word, 0x100);
                Check.same("register 1", x.register(1), 0x1001);
                Check.same("WORK", x.control(Asm.WORK), 5);
            }
        }
    }

    private static int changed(int f, int was, int x) {
        switch (f & 3) {
            case 1: return x;
            case 2: return was | x;
            default: return was & ~x;
        }
    }

    private static void controlChanges() {
        int was = 0x0ff0a5f3;
        int[] xs = {0, -1, 0x1234567d};
        for (int f = 1; f < 8; f++) {
            if (f == 4) {
                continue;
            }
            for (int x : xs) {
                PagedHart h = Asm.of(Asm.control(f, 2, 7, Asm.SCRATCH), Asm.control(f, 7, 7, Asm.SCRATCH),
                    Asm.control(f, 0, 29, Asm.SCRATCH), Asm.control(f, 3, 0, Asm.SCRATCH));
                h.setControl(Asm.SCRATCH, was);
                h.setRegister(7, x);
                h.setRegister(29, 0x100);
                h.run(1);
                int first = changed(f, was, f > 4 ? 7 : x);
                Check.same("F " + f + ": d", h.register(2), was);
                Check.same("F " + f + ": control", h.control(Asm.SCRATCH), first);
                h.run(1);
                int second = changed(f, first, f > 4 ? 7 : x);
                Check.same("F " + f + " with D = A: d", h.register(7), first);
                Check.same("F " + f + " with D = A: control", h.control(Asm.SCRATCH), second);
                h.run(1);
                int third = changed(f, second, f > 4 ? 29 : 0x100);
                Check.same("F " + f + " with D 0: register 0", h.register(0), 0);
                Check.same("F " + f + " with D 0: control", h.control(Asm.SCRATCH), third);
                h.run(1);
                Check.same("F " + f + " with A 0: d", h.register(3), third);
                Check.same("F " + f + " with A 0: control", h.control(Asm.SCRATCH), f == 1 || f == 5 ? 0 : third);
                Check.same("PC", h.register(Asm.PC), 16);
            }
        }
    }

    private static void controlsKeepTheirBits() {
        for (int n : Asm.CONTROLS) {
            int bits = n == Asm.STATUS ? 0x40100 : n == Asm.VECTOR || n == Asm.RETURN ? ~3 : -1;
            int fetchable = n == Asm.TABLES ? 0x7fffffff : -1;
            PagedHart x = Asm.of(Asm.control(1, 2, 1, n), Asm.control(3, 3, 1, n), Asm.control(2, 4, 1, n),
                Asm.control(5, 5, 0, n), Asm.control(6, 6, 31, n));
            x.setControl(n, 0);
            x.setRegister(1, fetchable);
            int written = bits & fetchable;
            Check.same("steps", x.run(5), 5);
            Check.same("control " + n + " at first", x.register(2), 0);
            Check.same("control " + n + " written", x.register(3), written);
            Check.same("control " + n + " cleared", x.register(4), 0);
            Check.same("control " + n + " set", x.register(5), written);
            Check.same("control " + n + " 0", x.register(6), 0);
            Check.same("control " + n + " 31", x.control(n), 31 & bits);
            Check.same("PC", x.register(Asm.PC), 20);
        }
    }

    private static void controlsOfNoNumber() {
        for (int n = 0; n < 4096; n++) {
            boolean is = false;
            for (int one : Asm.CONTROLS) {
                is |= one == n;
            }
            int word = Asm.control(2, 1, 0, n);
            PagedHart x = inMode(1, word);
            if (is) {
                Asm.doneDue("control " + n, x, 0x104);
            } else {
                Asm.trapDue("control " + n, x, 2, word, 0x100);
                Check.same("register 1", x.register(1), 0x1001);
            }
        }
    }

    private static void otherOps() {
        int[] known = {0x37, 0x17, 0x6f, 0x67, 0x63, 3, 0x23, 0x13, 0x33, 0xf, 0x73};
        for (int op = 0; op < 128; op++) {
            boolean is = false;
            for (int one : known) {
                is |= one == op;
            }
            if (!is) {
                refused(0, op);
                refused(1, op);
                refused(1, 0xffffff80 | op);
            }
        }
        refused(1, 0);
        refused(1, -1);
    }

    private static void otherSystemWords() {
        int[] words = {
            0x73 | 1 << 7, 0x73 | 1 << 15, 0x200073, 0x100073 | 1 << 7, 0x100073 | 1 << 15,
            0x10200073 | 1 << 7, 0x10200073 | 1 << 15, 0x10500073 | 1 << 7, 0x10500073 | 1 << 15,
            0x30200073, 0x00200073, 0x10300073, 0x10400073, 0x10600073,
            Asm.control(4, 1, 0, Asm.SCRATCH), Asm.control(4, 0, 0, Asm.STATUS)
        };
        for (int word : words) {
            refused(0, word);
            refused(1, word);
        }
    }
}
