/** Promise 2: traps, fetches, and the two counts of a user's instructions. */
public final class StepTrapTest {
    private static final int TURN_CAUSE = 0x80000005;

    public static void main(String[] args) {
        trapsKeepTheRest();
        misalignedFetches();
        fetchesByPages();
        trapInATrap();
        workAndTurn();
        workBeforeTurn();
        countsBeforeTheFetch();
        minusOneStays();
        countsBelowMinusOne();
        supervisorsAreNotCounted();
        trapsAreNotCounted();
        allOthersAreCounted();
        usersReturnAtOnce();
        Check.done();
    }

    private static void trapsKeepTheRest() {
        PagedHart x = new PagedHart();
        for (int i = 1; i < 32; i++) {
            x.setRegister(i, 100 + i);
        }
        x.setControl(Asm.STATUS, 0x40100);
        x.setControl(Asm.SCRATCH, 11);
        x.setControl(Asm.TABLES, 12);
        x.setControl(Asm.TURN, 13);
        x.setControl(Asm.WORK, 14);
        x.setRegister(Asm.PC, 0x100);
        x.setRegister(Asm.MODE, 0);
        Asm.trapDue("a word of 0", x, 2, 0, 0x100);
        for (int i = 1; i < 32; i++) {
            Check.same("register " + i, x.register(i), 100 + i);
        }
        Check.same("STATUS: PRIOR 0, SUM stays", x.control(Asm.STATUS), 0x40000);
        Check.same("SCRATCH", x.control(Asm.SCRATCH), 11);
        Check.same("TABLES", x.control(Asm.TABLES), 12);
        Check.same("TURN", x.control(Asm.TURN), 13);
        Check.same("WORK", x.control(Asm.WORK), 14);
        Check.same("VECTOR", x.control(Asm.VECTOR), 0x3f00);
    }

    private static void misalignedFetches() {
        for (int mode = 0; mode < 2; mode++) {
            for (int low = 1; low < 4; low++) {
                PagedHart x = new PagedHart();
                x.setRegister(Asm.MODE, mode);
                x.setRegister(Asm.PC, 0x100 + low);
                Asm.trapDue("fetch at " + low, x, 0, 0x100 + low, 0x100);
                x.setRegister(Asm.PC, 0x40000 + low);
                Asm.trapDue("fetch behind the memory", x, 0, 0x40000 + low, 0x40000);
                x.setControl(Asm.TABLES, 0x80000000);
                x.setRegister(Asm.PC, -4 + low);
                Asm.trapDue("fetch of no page", x, 0, -4 + low, -4);
            }
        }
    }

    private static void fetchesByPages() {
        PagedHart x = new PagedHart();
        x.poke(0x2000, 0xdf);
        x.poke(0x2004, 0xcf);
        x.poke(0x2008, 0x40000 << 10 | 0xdf);
        x.setControl(Asm.TABLES, 0x80000002);
        x.poke(0x100, Asm.NOTHING);
        x.setRegister(Asm.PC, 0x100);
        Asm.trapDue("supervisor's fetch of the user's page", x, 0xc, 0x100, 0x100);
        x.setControl(Asm.STATUS, 0x40000);
        x.setRegister(Asm.PC, 0x100);
        Asm.trapDue("supervisor's fetch of the user's page, with SUM", x, 0xc, 0x100, 0x100);
        x.setRegister(Asm.PC, 0x100);
        x.setRegister(Asm.MODE, 0);
        Asm.doneDue("user's fetch of the user's page", x, 0x104);
        x.setRegister(Asm.PC, 0x400100);
        Asm.trapDue("user's fetch of the supervisor's page", x, 0xc, 0x400100, 0x400100);
        x.setRegister(Asm.PC, 0x400100);
        Asm.doneDue("supervisor's fetch of the supervisor's page", x, 0x400104);
        x.setRegister(Asm.MODE, 0);
        x.setRegister(Asm.PC, 0x800100);
        Asm.trapDue("fetch behind the memory", x, 1, 0x800100, 0x800100);
        x.setRegister(Asm.PC, 0xc00100);
        Asm.trapDue("fetch of no page", x, 0xc, 0xc00100, 0xc00100);
    }

    private static void trapInATrap() {
        PagedHart x = Asm.of(Asm.CALL);
        x.setRegister(Asm.MODE, 0);
        Asm.trapDue("a user's call", x, 8, 0, 0);
        Check.same("PRIOR", x.control(Asm.STATUS), 0);
        Asm.trapDue("a word of 0 behind it", x, 2, 0, 0x3f00);
        Check.same("PRIOR", x.control(Asm.STATUS), 0x100);
    }

    private static PagedHart user(int turn, int work) {
        PagedHart x = Asm.of(Asm.add(1, 1, 1), Asm.jump(0, -4));
        x.setRegister(Asm.MODE, 0);
        x.setControl(Asm.TURN, turn);
        x.setControl(Asm.WORK, work);
        return x;
    }

    private static void counts(String what, PagedHart x, int turn, int work) {
        Check.same(what + ": TURN", x.control(Asm.TURN), turn);
        Check.same(what + ": WORK", x.control(Asm.WORK), work);
    }

    private static void workAndTurn() {
        PagedHart x = user(3, 5);
        x.run(2);
        counts("after 2", x, 1, 3);
        x.run(1);
        counts("after 3", x, 0, 2);
        Check.same("mode when TURN has come to 0", x.register(Asm.MODE), 0);
        Asm.trapDue("TURN 0", x, TURN_CAUSE, 0, 4);
        counts("after the trap", x, 0, 2);
        x.setControl(Asm.TURN, 100);
        x.setRegister(Asm.PC, 4);
        x.setRegister(Asm.MODE, 0);
        x.run(2);
        counts("after 5", x, 98, 0);
        Asm.trapDue("WORK 0", x, 0x18, 0, 4);
        counts("after the trap", x, 98, 0);
        Check.same("register 1", x.register(1), 3);
    }

    private static void workBeforeTurn() {
        Asm.trapDue("both 0", user(0, 0), 0x18, 0, 0);
        Asm.trapDue("WORK 0", user(-1, 0), 0x18, 0, 0);
        Asm.trapDue("TURN 0", user(0, -1), TURN_CAUSE, 0, 0);
        Asm.trapDue("TURN 0, WORK 1", user(0, 1), TURN_CAUSE, 0, 0);
    }

    private static void countsBeforeTheFetch() {
        int[] places = {0x102, 0x40000, -1};
        for (int place : places) {
            PagedHart x = user(0, -1);
            x.setRegister(Asm.PC, place);
            Asm.trapDue("TURN 0 at " + place, x, TURN_CAUSE, 0, place & ~3);
            PagedHart y = user(-1, 0);
            y.setRegister(Asm.PC, place);
            Asm.trapDue("WORK 0 at " + place, y, 0x18, 0, place & ~3);
        }
    }

    private static void minusOneStays() {
        PagedHart x = user(-1, -1);
        x.run(1000);
        counts("both -1", x, -1, -1);
        Check.same("register 1", x.register(1), 500);
        PagedHart y = user(-1, 10);
        y.run(4);
        counts("TURN -1", y, -1, 6);
        PagedHart z = user(10, -1);
        z.run(4);
        counts("WORK -1", z, 6, -1);
    }

    private static void countsBelowMinusOne() {
        PagedHart x = user(-2, Integer.MIN_VALUE);
        x.run(3);
        counts("below -1", x, -5, Integer.MAX_VALUE - 2);
    }

    private static void supervisorsAreNotCounted() {
        PagedHart x = user(0, 0);
        x.setRegister(Asm.MODE, 1);
        Check.same("steps", x.run(10), 10);
        counts("supervisor's", x, 0, 0);
        Check.same("register 1", x.register(1), 5);
        Check.same("CAUSE", x.control(Asm.CAUSE), 0);
        PagedHart y = user(5, 6);
        y.setRegister(Asm.MODE, 1);
        y.run(10);
        counts("supervisor's", y, 5, 6);
    }

    private static void trapsAreNotCounted() {
        int[] words = {
            0, Asm.CALL, Asm.BREAK, Asm.TRAP_RETURN, Asm.WAIT, Asm.load(2, 1, 0, 1), Asm.load(2, 1, 0, -4),
            Asm.s(2, 0, 1, 1), Asm.s(2, 0, 1, -4), Asm.jump(1, 2), Asm.branch(0, 0, 0, 2)
        };
        for (int word : words) {
            PagedHart x = Asm.of(word);
            x.setRegister(Asm.MODE, 0);
            x.setControl(Asm.TURN, 5);
            x.setControl(Asm.WORK, 6);
            x.setControl(Asm.VECTOR, 0x3f00);
            x.run(1);
            Check.same("mode", x.register(Asm.MODE), 1);
            counts("word " + Integer.toHexString(word), x, 5, 6);
        }
    }

    private static void allOthersAreCounted() {
        int[] words = {
            Asm.u(0x37, 1, 1), Asm.u(0x17, 1, 1), Asm.jump(1, 8), Asm.jumpTo(1, 0, 8), Asm.branch(0, 0, 0, 8),
            Asm.branch(1, 0, 0, 8), Asm.load(2, 1, 0, 0), Asm.s(2, 0, 1, 0), Asm.NOTHING,
            Asm.r(0x33, 0, 0, 1, 1, 1), Asm.r(0x33, 1, 4, 1, 1, 0), Asm.r(0x33, 0x20, 0, 1, 1, 1), 0xf
        };
        for (int word : words) {
            PagedHart x = Asm.of(word);
            x.setRegister(Asm.MODE, 0);
            x.setControl(Asm.TURN, 5);
            x.setControl(Asm.WORK, 6);
            x.run(1);
            Check.same("mode", x.register(Asm.MODE), 0);
            counts("word " + Integer.toHexString(word), x, 4, 5);
        }
    }

    private static void usersReturnAtOnce() {
        // The return is the supervisor's instruction: it is not counted, the user's first one is.
        PagedHart x = Asm.of(Asm.TRAP_RETURN);
        x.poke(0x100, Asm.NOTHING);
        x.setControl(Asm.RETURN, 0x100);
        x.setControl(Asm.TURN, 1);
        x.setControl(Asm.WORK, 1);
        x.run(1);
        Check.same("mode", x.register(Asm.MODE), 0);
        counts("after the return", x, 1, 1);
        x.run(1);
        counts("after the user's", x, 0, 0);
        Asm.trapDue("then", x, 0x18, 0, 0x104);
    }
}
