/** Promise 3: called tells how the last run that made steps ended. */
public final class Promise03CalledTest {
    public static void main(String[] args) {
        PagedHart x = Asm.of(Asm.NOTHING, Asm.CALL, Asm.NOTHING, Asm.CALL, Asm.NOTHING, Asm.NOTHING);
        Check.same("called of a new object", x.called(), false);
        x.run(0);
        Check.same("called after run(0)", x.called(), false);
        x.run(1);
        Check.same("called before a call", x.called(), false);
        x.run(1);
        Check.same("called behind a call, the run's last step", x.called(), true);
        x.run(0);
        Check.same("called, kept by run(0)", x.called(), true);
        Check.throwsArgument("run(-1)", () -> x.run(-1));
        Check.same("called, kept by a refused run", x.called(), true);
        x.poke(0, 1);
        x.setRegister(1, 1);
        x.setRegister(Asm.PC, 8);
        x.setRegister(Asm.MODE, 1);
        x.setControl(Asm.SCRATCH, 1);
        x.translate(0, 0);
        Check.same("called, kept by other calls", x.called(), true);
        x.run(1);
        Check.same("called after a run that ended before a call", x.called(), false);
        x.run(20);
        Check.same("called behind the second call", x.called(), true);
        Check.same("called asked again", x.called(), true);
        x.run(1);
        Check.same("called after a run behind it", x.called(), false);

        PagedHart y = Asm.of(Asm.CALL);
        y.setRegister(Asm.MODE, 0);
        y.run(1);
        Check.same("called behind a user's call", y.called(), false);
        // Its trap went to 0, in the supervisor's mode: there the same word ends the run.
        Check.same("run of the same word", y.run(5), 1);
        Check.same("called behind the same word", y.called(), true);

        PagedHart z = Asm.of(Asm.BREAK);
        z.run(1);
        Check.same("called behind another trap", z.called(), false);
        Check.done();
    }
}
