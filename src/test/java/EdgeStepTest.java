/** "A STEP": the two counts, the fetch, the next address; and "A TRAP with a cause". */
public final class EdgeStepTest {
    private static final int WORK_CAUSE = 0x18;
    private static final int TURN_CAUSE = 0x80000005;
    private static final int MIN = Integer.MIN_VALUE;
    private static final int MAX = Integer.MAX_VALUE;

    public static void main(String[] args) {
        Check.sentence("if WORK is 0, a trap 18, VALUE 0", EdgeStepTest::workIsEmpty);
        Check.sentence("else if TURN is 0, a trap 80000005, VALUE 0", EdgeStepTest::turnIsEmpty);
        Check.sentence("WORK before TURN", EdgeStepTest::bothAreEmpty);
        Check.sentence("In the user's mode (and in no other)", EdgeStepTest::supervisorsEmptyCounts);
        Check.sentence("first: before the fetch", EdgeStepTest::beforeTheFetch);
        Check.sentence("WORK and TURN become less by 1 each", EdgeStepTest::lessByOne);
        Check.sentence("less by 1 each: for each kind of instruction", EdgeStepTest::allKindsAreCounted);
        Check.sentence("but -1 stays", EdgeStepTest::minusOneStays);
        Check.sentence("less by 1: below -1 and around", EdgeStepTest::countsWrap);
        Check.sentence("If it is done (without a trap)", EdgeStepTest::trapsAreNotCounted);
        Check.sentence("and the mode was the user's", EdgeStepTest::theModeThatWas);
        Check.sentence("misaligned 0; VALUE the PC", EdgeStepTest::misalignedFetch);
        Check.sentence("access 1; VALUE the PC", EdgeStepTest::fetchBehindTheMemory);
        Check.sentence("page c; VALUE the PC", EdgeStepTest::fetchOfNoPage);
        Check.sentence("PC becomes the next address (PC + 4, wrapping)", EdgeStepTest::nextAddressWraps);
        Check.sentence("RETURN the PC of the instruction that was not done; bits 0 and 1 away", EdgeStepTest::returnAddress);
        Check.sentence("PRIOR the mode, the mode the supervisor's, PC becomes VECTOR", EdgeStepTest::modesOfTraps);
        Check.sentence("Nothing else changes", EdgeStepTest::nothingElseChanges);
        Check.sentence("it is a step", EdgeStepTest::aTrapIsAStep);
        Check.done();
    }

    /** A user's loop that counts in register 1: two instructions. */
    private static PagedHart user(int turn, int work) {
        PagedHart x = Asm.of(Asm.add(1, 1, 1), Asm.jump(0, -4));
        x.setRegister(Asm.MODE, 0);
        x.setControl(Asm.TURN, turn);
        x.setControl(Asm.WORK, work);
        x.setControl(Asm.VECTOR, 0x3f00);
        return x;
    }

    private static void counts(String what, PagedHart x, int turn, int work) {
        Check.same(what + ": TURN", x.control(Asm.TURN), turn);
        Check.same(what + ": WORK", x.control(Asm.WORK), work);
    }

    private static void workIsEmpty() {
        PagedHart x = user(-1, 0);
        x.setControl(Asm.VALUE, 99);
        Asm.trapDue("WORK 0", x, WORK_CAUSE, 0, 0);
        counts("WORK 0", x, -1, 0);
        Check.same("the instruction is not done", x.register(1), 0);
        PagedHart y = user(-1, 1);
        Asm.doneDue("WORK 1", y, 4);
        counts("WORK 1, then", y, -1, 0);
        Asm.trapDue("WORK 1, then", y, WORK_CAUSE, 0, 4);
    }

    private static void turnIsEmpty() {
        PagedHart x = user(0, -1);
        x.setControl(Asm.VALUE, 99);
        Asm.trapDue("TURN 0", x, TURN_CAUSE, 0, 0);
        counts("TURN 0", x, 0, -1);
        Check.same("the instruction is not done", x.register(1), 0);
        PagedHart y = user(1, -1);
        Asm.doneDue("TURN 1", y, 4);
        counts("TURN 1, then", y, 0, -1);
        Asm.trapDue("TURN 1, then", y, TURN_CAUSE, 0, 4);
    }

    private static void bothAreEmpty() {
        PagedHart x = user(0, 0);
        Asm.trapDue("both 0", x, WORK_CAUSE, 0, 0);
        // The handler gives work, but no turn.
        x.setControl(Asm.WORK, 5);
        x.setRegister(Asm.MODE, 0);
        x.setRegister(Asm.PC, 0);
        Asm.trapDue("WORK 5, TURN 0", x, TURN_CAUSE, 0, 0);
        counts("both 0, then", x, 0, 5);
        PagedHart y = user(2, 2);
        Check.same("both 2: run", y.run(3), 3);
        Check.same("both 2: CAUSE", y.control(Asm.CAUSE), WORK_CAUSE);
        counts("both 2", y, 0, 0);
    }

    private static void supervisorsEmptyCounts() {
        PagedHart x = user(0, 0);
        x.setRegister(Asm.MODE, 1);
        Check.same("run", x.run(20), 20);
        Check.same("register 1", x.register(1), 10);
        Check.same("CAUSE", x.control(Asm.CAUSE), 0);
        counts("supervisor's", x, 0, 0);
        PagedHart y = user(1, 1);
        y.setRegister(Asm.MODE, 1);
        y.run(20);
        counts("supervisor's", y, 1, 1);
    }

    private static void beforeTheFetch() {
        int[] places = {1, 2, 3, 0x40000, -4, -1, MIN};
        for (int place : places) {
            PagedHart x = user(-1, 0);
            x.setRegister(Asm.PC, place);
            Asm.trapDue("WORK 0 at " + place, x, WORK_CAUSE, 0, place & ~3);
            PagedHart y = user(0, -1);
            y.setRegister(Asm.PC, place);
            Asm.trapDue("TURN 0 at " + place, y, TURN_CAUSE, 0, place & ~3);
        }
        PagedHart z = user(0, -1);
        z.setControl(Asm.TABLES, 0x80000008);
        Asm.trapDue("TURN 0 at no page", z, TURN_CAUSE, 0, 0);
        PagedHart v = user(0, 0);
        v.poke(0, Asm.CALL);
        Asm.trapDue("WORK 0 at a call", v, WORK_CAUSE, 0, 0);
    }

    private static void lessByOne() {
        PagedHart x = user(100, 200);
        x.run(1);
        counts("1 step", x, 99, 199);
        x.run(98);
        counts("99 steps", x, 1, 101);
        x.run(1);
        counts("100 steps", x, 0, 100);
        Check.same("mode", x.register(Asm.MODE), 0);
        Asm.trapDue("101 steps", x, TURN_CAUSE, 0, 0);
        counts("101 steps", x, 0, 100);
        PagedHart y = user(MAX, MAX);
        y.run(1);
        counts("the greatest", y, MAX - 1, MAX - 1);
    }

    private static void allKindsAreCounted() {
        int[] words = {
            Asm.u(0x37, 1, 1), Asm.u(0x17, 1, 1), Asm.jump(1, 8), Asm.jump(0, 0), Asm.jumpTo(1, 0, 8),
            Asm.branch(0, 0, 0, 8), Asm.branch(1, 0, 0, 8), Asm.branch(1, 0, 0, 2), Asm.branch(5, 0, 0, 0),
            Asm.load(0, 1, 0, 3), Asm.load(1, 1, 0, 2), Asm.load(2, 0, 0, 0), Asm.load(4, 1, 0, 3), Asm.load(5, 1, 0, 2),
            Asm.s(0, 0, 1, 0x203), Asm.s(1, 0, 1, 0x202), Asm.s(2, 0, 1, 0x200), Asm.NOTHING, Asm.r(0x13, 0, 1, 1, 1, 31),
            Asm.r(0x13, 0, 5, 1, 1, 31), Asm.r(0x13, 0x20, 5, 1, 1, 31), Asm.r(0x33, 0, 0, 0, 1, 1),
            Asm.r(0x33, 0x20, 0, 1, 1, 1), Asm.r(0x33, 0x20, 5, 1, 1, 1), Asm.r(0x33, 1, 1, 1, 1, 1), Asm.r(0x33, 1, 4, 1, 1, 0), 0xf
        };
        for (int word : words) {
            PagedHart x = user(1, 2);
            x.poke(0, word);
            x.run(1);
            Check.same("mode after " + Integer.toHexString(word), x.register(Asm.MODE), 0);
            counts("after " + Integer.toHexString(word), x, 0, 1);
        }
    }

    private static void minusOneStays() {
        PagedHart x = user(-1, -1);
        Check.same("run", x.run(20000), 20000);
        Check.same("register 1", x.register(1), 10000);
        counts("both", x, -1, -1);
        PagedHart y = user(-1, 7);
        y.run(5);
        counts("TURN", y, -1, 2);
        PagedHart z = user(7, -1);
        z.run(5);
        counts("WORK", z, 2, -1);
    }

    private static void countsWrap() {
        PagedHart x = user(-2, MIN);
        Asm.doneDue("below -1", x, 4);
        counts("below -1", x, -3, MAX);
        PagedHart y = user(MIN, -2);
        Asm.doneDue("below -1", y, 4);
        counts("below -1", y, MAX, -3);
    }

    private static void trapsAreNotCounted() {
        int[] words = {
            0, -1, Asm.CALL, Asm.BREAK, Asm.TRAP_RETURN, Asm.WAIT, 0x12000073, Asm.control(1, 1, 1, Asm.WORK),
            Asm.load(2, 1, 0, 2), Asm.load(2, 1, 0, -4), Asm.s(2, 0, 1, 2), Asm.s(2, 0, 1, -4),
            Asm.jump(1, 2), Asm.jumpTo(1, 0, 2), Asm.branch(0, 0, 0, 2), Asm.i(0x67, 1, 1, 0, 0)
        };
        for (int word : words) {
            PagedHart x = user(1, 1);
            x.poke(0, word);
            x.run(1);
            Check.same("mode after " + Integer.toHexString(word), x.register(Asm.MODE), 1);
            counts("after " + Integer.toHexString(word), x, 1, 1);
        }
        int[] places = {2, 0x40000};
        for (int place : places) {
            PagedHart x = user(1, 1);
            x.setRegister(Asm.PC, place);
            x.run(1);
            counts("after a fetch at " + place, x, 1, 1);
        }
    }

    private static void theModeThatWas() {
        // The return is the supervisor's, what it goes to the user's.
        PagedHart x = user(1, 1);
        x.poke(0x100, Asm.TRAP_RETURN);
        x.setRegister(Asm.MODE, 1);
        x.setRegister(Asm.PC, 0x100);
        Asm.doneDue("a return", x, 0);
        Check.same("mode behind a return", x.register(Asm.MODE), 0);
        counts("a return", x, 1, 1);
        Asm.doneDue("behind a return", x, 4);
        counts("behind a return", x, 0, 0);
    }

    private static void misalignedFetch() {
        int[] places = {1, 2, 3, 0x101, 0x3fffe, 0x40001, -1, -2, -3, MIN + 1, MAX};
        for (int place : places) {
            for (int tables = 0; tables < 2; tables++) {
                PagedHart x = new PagedHart();
                x.setControl(Asm.TABLES, tables == 0 ? 0 : 0x80000040);
                x.setRegister(Asm.PC, place);
                Asm.trapDue("fetch at " + place, x, 0, place, place & ~3);
            }
        }
    }

    private static void fetchBehindTheMemory() {
        PagedHart x = new PagedHart();
        x.poke(0x3fffc, Asm.NOTHING);
        x.setRegister(Asm.PC, 0x3fffc);
        Asm.doneDue("the last word", x, 0x40000);
        Asm.trapDue("behind the last word", x, 1, 0x40000, 0x40000);
        int[] places = {-4, MIN, MAX - 3, 0x40004, 0x80000};
        for (int place : places) {
            PagedHart y = new PagedHart();
            y.setRegister(Asm.PC, place);
            Asm.trapDue("fetch at " + place, y, 1, place, place);
        }
    }

    private static void fetchOfNoPage() {
        for (int mode = 0; mode < 2; mode++) {
            PagedHart x = new PagedHart();
            x.setRegister(Asm.MODE, mode);
            x.setControl(Asm.TABLES, 0x80000008);
            x.setRegister(Asm.PC, 0xfffff000);
            Asm.trapDue("fetch of no page", x, 0xc, 0xfffff000, 0xfffff000);
        }
    }

    /** The last page of all addresses is page 5 of the memory, and the first one is page 6. */
    private static PagedHart atTheEnd(int... lastWords) {
        PagedHart x = new PagedHart();
        x.poke(0x2000, 3 << 10 | 1);
        x.poke(0x2ffc, 3 << 10 | 1);
        x.poke(0x3000, 6 << 10 | 0xcf);
        x.poke(0x3ffc, 5 << 10 | 0xcf);
        x.setControl(Asm.TABLES, 0x80000002);
        Asm.put(x, 0x6000 - 4 * lastWords.length, lastWords);
        x.setRegister(Asm.PC, -4 * lastWords.length);
        return x;
    }

    private static void nextAddressWraps() {
        PagedHart x = atTheEnd(Asm.NOTHING);
        x.poke(0x6000, Asm.add(1, 0, 7));
        Asm.doneDue("behind the last address of all", x, 0);
        Asm.doneDue("the first address", x, 4);
        Check.same("register 1", x.register(1), 7);
        Asm.doneDue("a branch not taken", atTheEnd(Asm.branch(1, 0, 0, 8)), 0);
        Asm.doneDue("a store", atTheEnd(Asm.s(2, 0, 0, 0)), 0);
        Asm.doneDue("a call", atTheEnd(Asm.CALL), 0);
        PagedHart y = atTheEnd(Asm.jump(2, -4), 0);
        y.setRegister(Asm.PC, -4);
        y.poke(0x5ffc, Asm.jump(2, -8));
        y.setRegister(2, 99);
        Asm.doneDue("a jump", y, -12);
        Check.same("d of a jump: PC + 4", y.register(2), 0);
        PagedHart z = atTheEnd(Asm.jump(2, 12));
        Asm.doneDue("a jump around", z, 8);
        PagedHart v = atTheEnd(Asm.branch(0, 0, 0, 16));
        Asm.doneDue("a branch around", v, 12);
        PagedHart w = atTheEnd(Asm.u(0x17, 2, 1));
        Asm.doneDue("PC + U", w, 0);
        Check.same("PC + U around", w.register(2), 0xffc);
    }

    private static void returnAddress() {
        int[] places = {0, 4, 0x3fff8, 0x3fffc};
        for (int place : places) {
            PagedHart x = new PagedHart();
            x.setRegister(Asm.PC, place);
            Asm.trapDue("a word of 0 at " + place, x, 2, 0, place);
        }
        for (int low = 1; low < 4; low++) {
            PagedHart x = new PagedHart();
            x.setRegister(Asm.PC, 0x3fffc + low);
            Asm.trapDue("a fetch at " + low, x, 0, 0x3fffc + low, 0x3fffc);
        }
        // A jump that is not done: its own address, not that where it would have gone.
        PagedHart y = new PagedHart();
        y.poke(0x100, Asm.jump(1, 6));
        y.setRegister(Asm.PC, 0x100);
        Asm.trapDue("a jump", y, 0, 0x106, 0x100);
    }

    private static void modesOfTraps() {
        int[] vectors = {0, 4, 0x3fffc, 0x40000, -4, MIN};
        for (int vector : vectors) {
            for (int mode = 0; mode < 2; mode++) {
                for (int prior = 0; prior < 2; prior++) {
                    PagedHart x = new PagedHart();
                    x.setControl(Asm.VECTOR, vector);
                    x.setControl(Asm.STATUS, prior << 8);
                    x.setRegister(Asm.MODE, mode);
                    x.setRegister(Asm.PC, 0x200);
                    x.run(1);
                    Check.same("PC", x.register(Asm.PC), vector);
                    Check.same("mode", x.register(Asm.MODE), 1);
                    Check.same("PRIOR", x.control(Asm.STATUS), mode << 8);
                    Check.same("VECTOR", x.control(Asm.VECTOR), vector);
                }
            }
        }
    }

    private static void nothingElseChanges() {
        int[] words = {0, Asm.BREAK, Asm.CALL, Asm.load(2, 3, 0, 1), Asm.s(2, 0, 3, -4), Asm.jump(3, 2), Asm.control(1, 3, 3, 0)};
        for (int word : words) {
            PagedHart x = new PagedHart();
            x.poke(0x100, word);
            for (int i = 1; i < 32; i++) {
                x.setRegister(i, 500 + i);
            }
            int[] controls = {0x40000, 0x200, 11, 12, 13, 14, 15, 16, 17};
            for (int k = 0; k < controls.length; k++) {
                x.setControl(Asm.CONTROLS[k], controls[k]);
            }
            x.setRegister(Asm.MODE, 0);
            x.setRegister(Asm.PC, 0x100);
            x.run(1);
            for (int i = 1; i < 32; i++) {
                Check.same("register " + i, x.register(i), 500 + i);
            }
            Check.same("SUM", x.control(Asm.STATUS), 0x40000);
            Check.same("SCRATCH", x.control(Asm.SCRATCH), 11);
            Check.same("TABLES", x.control(Asm.TABLES), 15);
            counts("a trap", x, 16, 17);
            for (int address = 0; address < 0x200; address += 4) {
                if (address != 0x100 && address % 16 == 0) {
                    Check.same("word " + address, x.peek(address), 0);
                }
            }
            Check.same("the last word", x.peek(0x3fffc), 0);
        }
    }

    private static void aTrapIsAStep() {
        PagedHart x = Asm.of(Asm.BREAK);
        x.setControl(Asm.VECTOR, 0x100);
        Check.same("run(1)", x.run(1), 1);
        Check.same("PC", x.register(Asm.PC), 0x100);
        // Traps without end, at the vector itself: as many steps as were asked for.
        PagedHart y = new PagedHart();
        Check.same("run(20000)", y.run(20000), 20000);
        Check.same("called", y.called(), false);
        PagedHart z = user(0, 0);
        z.poke(0x3f00, Asm.CALL);
        Check.same("a count's trap and a call", z.run(20000), 2);
        Check.same("called", z.called(), true);
    }
}
