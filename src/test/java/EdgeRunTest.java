/** Promises 1, 2 and 3, and the 512 calls of an object. */
public final class EdgeRunTest {
    public static void main(String[] args) {
        Check.sentence("All words and registers 0, PC 0, the supervisor's mode", EdgeRunTest::aNewObject);
        Check.sentence("Makes steps, at most so many: none", EdgeRunTest::noStep);
        Check.sentence("Makes steps, at most so many: one", EdgeRunTest::oneStep);
        Check.sentence("Makes steps, at most so many: 20000", EdgeRunTest::allSteps);
        Check.sentence("ends behind a call in the supervisor's mode", EdgeRunTest::endsBehindACall);
        Check.sentence("how many were made: a call in the last step that may be made", EdgeRunTest::callInTheLastStep);
        Check.sentence("(not behind a call in the user's mode)", EdgeRunTest::usersCalls);
        Check.sentence("called: the last run ended behind a call", EdgeRunTest::calledOfRuns);
        Check.sentence("called: (not of 0 steps)", EdgeRunTest::calledOfNoSteps);
        Check.sentence("called: a run that threw is none", EdgeRunTest::calledOfRefusedRuns);
        Check.sentence("An object is used for at most 512 calls", EdgeRunTest::fiveHundredTwelveCalls);
        Check.done();
    }

    private static void aNewObject() {
        PagedHart x = new PagedHart();
        for (int i = 0; i < 34; i++) {
            Check.same("register " + i, x.register(i), i == 33 ? 1 : 0);
        }
        for (int n : Asm.CONTROLS) {
            Check.same("control " + n, x.control(n), n == Asm.TURN || n == Asm.WORK ? -1 : 0);
        }
        Check.same("called", x.called(), false);
        int[] addresses = {0, 4, 131072, 262136, 262140};
        for (int address : addresses) {
            Check.same("word " + address, x.peek(address), 0);
        }
        // No trap, no counts, no tables: what a word of 0 at 0 does at once.
        PagedHart y = new PagedHart();
        Check.same("run(1)", y.run(1), 1);
        Check.same("CAUSE", y.control(Asm.CAUSE), 2);
        Check.same("STATUS", y.control(Asm.STATUS), 0x100);
        Check.same("PC", y.register(Asm.PC), 0);
    }

    /** Register 1 counts, by two instructions each time. */
    private static PagedHart loop() {
        return Asm.of(Asm.add(1, 1, 1), Asm.jump(0, -4));
    }

    private static void noStep() {
        PagedHart x = Asm.of(Asm.CALL);
        State before = State.of(x);
        Check.same("run(0)", x.run(0), 0);
        before.due("run(0)", x);
        PagedHart y = Asm.of(0);
        y.setRegister(Asm.PC, -1);
        y.setRegister(Asm.MODE, 0);
        y.setControl(Asm.WORK, 0);
        State unready = State.of(y);
        Check.same("run(0) where a trap is due", y.run(0), 0);
        unready.due("run(0) where a trap is due", y);
    }

    private static void oneStep() {
        PagedHart x = loop();
        Check.same("run(1)", x.run(1), 1);
        Check.same("PC", x.register(Asm.PC), 4);
        Check.same("register 1", x.register(1), 1);
    }

    private static void allSteps() {
        PagedHart x = loop();
        Check.same("run(20000)", x.run(20000), 20000);
        Check.same("register 1", x.register(1), 10000);
        Check.same("PC", x.register(Asm.PC), 0);
        Check.same("run(19999)", x.run(19999), 19999);
        Check.same("register 1", x.register(1), 20000);
        Check.same("PC", x.register(Asm.PC), 4);
    }

    private static void endsBehindACall() {
        PagedHart x = Asm.of(Asm.CALL, Asm.CALL, Asm.add(1, 1, 1), Asm.CALL, Asm.add(1, 1, 1));
        Check.same("a call at once", x.run(20000), 1);
        Check.same("PC", x.register(Asm.PC), 4);
        Check.same("a call at once, again", x.run(20000), 1);
        Check.same("PC", x.register(Asm.PC), 8);
        Check.same("a call behind an instruction", x.run(20000), 2);
        Check.same("PC", x.register(Asm.PC), 16);
        Check.same("register 1", x.register(1), 1);
    }

    private static void callInTheLastStep() {
        for (int most = 1; most < 6; most++) {
            PagedHart x = Asm.of(Asm.NOTHING, Asm.NOTHING, Asm.CALL, Asm.NOTHING);
            Check.same("run(" + most + ")", x.run(most), Math.min(most, 3));
            Check.same("called after run(" + most + ")", x.called(), most >= 3);
            Check.same("PC after run(" + most + ")", x.register(Asm.PC), 4 * Math.min(most, 3));
        }
        // 9999 times around, an instruction more, a call: the 20000th step.
        PagedHart y = Asm.of(Asm.add(1, 1, -1), Asm.branch(1, 1, 0, -4), Asm.NOTHING, Asm.CALL);
        y.setRegister(1, 9999);
        Check.same("run(20000) to a call", y.run(20000), 20000);
        Check.same("called in step 20000", y.called(), true);
        PagedHart z = Asm.of(Asm.add(1, 1, -1), Asm.branch(1, 1, 0, -4), Asm.CALL);
        z.setRegister(1, 10000);
        Check.same("run(20000) to before a call", z.run(20000), 20000);
        Check.same("called before step 20001", z.called(), false);
        Check.same("run(1) to a call", z.run(1), 1);
        Check.same("called in step 20001", z.called(), true);
    }

    private static void usersCalls() {
        PagedHart x = Asm.of(Asm.CALL);
        x.poke(0x100, Asm.TRAP_RETURN);
        x.setControl(Asm.VECTOR, 0x100);
        x.setRegister(Asm.MODE, 0);
        Check.same("run(20000)", x.run(20000), 20000);
        Check.same("called", x.called(), false);
        Check.same("run(1)", x.run(1), 1);
        Check.same("called behind a user's call", x.called(), false);
    }

    private static void calledOfRuns() {
        PagedHart x = Asm.of(Asm.NOTHING, Asm.CALL, Asm.NOTHING);
        Check.same("a new object", x.called(), false);
        x.run(1);
        Check.same("before a call", x.called(), false);
        x.run(1);
        Check.same("behind a call", x.called(), true);
        Check.same("behind a call, asked again", x.called(), true);
        x.run(1);
        Check.same("behind another instruction", x.called(), false);
        PagedHart y = Asm.of(Asm.CALL);
        y.run(1);
        x.setRegister(Asm.PC, 4);
        Check.same("another object's call", x.called(), false);
        y.setRegister(Asm.PC, 0x40002);
        y.run(1);
        Check.same("behind a trap", y.called(), false);
    }

    private static void calledOfNoSteps() {
        PagedHart x = Asm.of(Asm.CALL, Asm.NOTHING);
        x.run(0);
        Check.same("a new object after run(0)", x.called(), false);
        x.run(5);
        x.run(0);
        Check.same("behind a call, after run(0)", x.called(), true);
        x.run(0);
        Check.same("behind a call, after run(0) twice", x.called(), true);
        x.run(1);
        x.run(0);
        Check.same("behind an instruction, after run(0)", x.called(), false);
    }

    private static void calledOfRefusedRuns() {
        PagedHart x = Asm.of(Asm.CALL, Asm.NOTHING);
        Check.throwsArgument("run(20001)", () -> x.run(20001));
        Check.same("a new object after a refusal", x.called(), false);
        x.run(5);
        Check.throwsArgument("run(20001)", () -> x.run(20001));
        Check.throwsArgument("run(-1)", () -> x.run(-1));
        Check.same("behind a call, after refusals", x.called(), true);
        x.run(1);
        Check.throwsArgument("run(-1)", () -> x.run(-1));
        Check.same("behind an instruction, after a refusal", x.called(), false);
    }

    private static void fiveHundredTwelveCalls() {
        PagedHart x = loop();
        int made = 0;
        // The two pokes that made the loop are calls, too: 2 + 509 + 1.
        for (int k = 0; k < 509; k++) {
            made += x.run(20000);
        }
        Check.same("steps of 509 runs", made, 509 * 20000);
        Check.same("the 512th call", x.register(1), 509 * 10000);
        PagedHart y = new PagedHart();
        for (int k = 0; k < 511; k++) {
            y.poke(4 * k, k + 1);
        }
        Check.same("the 512th call", y.peek(4 * 510), 511);
    }
}
