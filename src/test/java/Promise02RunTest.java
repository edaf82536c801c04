/** Promise 2: how many steps run makes, where it ends, and what it refuses. */
public final class Promise02RunTest {
    public static void main(String[] args) {
        refusesOtherCounts();
        countsItsSteps();
        endsBehindTheSupervisorsCall();
        doesNotEndBehindTheUsersCall();
        trapsAreSteps();
        goesOnWhereItEnded();
        Check.done();
    }

    private static void refusesOtherCounts() {
        PagedHart x = Asm.of(Asm.add(1, 1, 1), Asm.CALL, Asm.jump(0, -8));
        x.run(3);
        int[] wrongOnes = {-1, 20001, Integer.MIN_VALUE, Integer.MAX_VALUE};
        for (int most : wrongOnes) {
            Check.throwsArgument("run " + most, () -> x.run(most));
            Check.same("register 1 after a refusal", x.register(1), 1);
            Check.same("PC after a refusal", x.register(Asm.PC), 8);
            Check.same("called after a refusal", x.called(), true);
        }
    }

    private static void countsItsSteps() {
        PagedHart x = Asm.of(Asm.add(1, 1, 1), Asm.jump(0, -4));
        Check.same("run(0)", x.run(0), 0);
        Check.same("PC after 0 steps", x.register(Asm.PC), 0);
        Check.same("run(1)", x.run(1), 1);
        Check.same("PC after a step", x.register(Asm.PC), 4);
        Check.same("run(20000)", x.run(20000), 20000);
        Check.same("register 1 after 20001 steps", x.register(1), 10001);
        Check.same("run(19999)", x.run(19999), 19999);
        Check.same("register 1 after 40000 steps", x.register(1), 20000);
    }

    private static void endsBehindTheSupervisorsCall() {
        PagedHart x = Asm.of(Asm.add(1, 1, 1), Asm.CALL, Asm.add(1, 1, 1), Asm.CALL);
        Check.same("run to a call", x.run(20000), 2);
        Check.same("register 1 at a call", x.register(1), 1);
        Check.same("PC behind a call", x.register(Asm.PC), 8);
        Check.same("mode behind a call", x.register(Asm.MODE), 1);
        Check.same("CAUSE behind a call", x.control(Asm.CAUSE), 0);
        Check.same("run just to the next call", x.run(2), 2);
        Check.same("register 1 at the next call", x.register(1), 2);
        Check.same("PC behind the next call", x.register(Asm.PC), 16);
    }

    private static void doesNotEndBehindTheUsersCall() {
        PagedHart x = Asm.of(Asm.CALL);
        Asm.put(x, 0x100, Asm.add(1, 1, 1), Asm.TRAP_RETURN);
        x.setControl(Asm.VECTOR, 0x100);
        x.setRegister(Asm.MODE, 0);
        Check.same("run over a user's calls", x.run(9), 9);
        Check.same("register 1 after a user's calls", x.register(1), 3);
        Check.same("called after a user's calls", x.called(), false);
    }

    private static void trapsAreSteps() {
        PagedHart x = new PagedHart();
        Check.same("run over traps alone", x.run(20000), 20000);
        Check.same("CAUSE", x.control(Asm.CAUSE), 2);
        Check.same("PC", x.register(Asm.PC), 0);
        PagedHart y = new PagedHart();
        y.setControl(Asm.VECTOR, -4);
        Check.same("run over fetches that trap", y.run(500), 500);
        Check.same("CAUSE", y.control(Asm.CAUSE), 1);
        Check.same("VALUE", y.control(Asm.VALUE), -4);
    }

    private static void goesOnWhereItEnded() {
        PagedHart whole = Asm.of(fibonacci());
        PagedHart inParts = Asm.of(fibonacci());
        Check.same("run whole", whole.run(20000), 63);
        int made = 0;
        for (int k = 0; k < 40 && !inParts.called(); k++) {
            made += inParts.run(3);
        }
        Check.same("run in parts", made, 63);
        for (int i = 0; i <= 33; i++) {
            Check.same("register " + i, inParts.register(i), whole.register(i));
        }
        Check.same("the 12th number", whole.register(1), 144);
    }

    private static int[] fibonacci() {
        return new int[] {
            Asm.add(2, 0, 1), Asm.add(3, 0, 12),
            Asm.r(0x33, 0, 0, 4, 1, 2), Asm.add(1, 2, 0), Asm.add(2, 4, 0),
            Asm.add(3, 3, -1), Asm.branch(1, 3, 0, -16), Asm.CALL
        };
    }
}
