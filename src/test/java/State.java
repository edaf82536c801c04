/** What an object tells of itself, but for its memory: registers, PC, mode, controls, called (44 calls). */
final class State {
    private final int[] values;

    private State(int[] values) {
        this.values = values;
    }

    static State of(PagedHart x) {
        int[] values = new int[34 + Asm.CONTROLS.length + 1];
        for (int i = 0; i < 34; i++) {
            values[i] = x.register(i);
        }
        for (int k = 0; k < Asm.CONTROLS.length; k++) {
            values[34 + k] = x.control(Asm.CONTROLS[k]);
        }
        values[values.length - 1] = x.called() ? 1 : 0;
        return new State(values);
    }

    /** Tells each part of the object that is not as it was here. */
    void due(String what, PagedHart x) {
        int[] now = of(x).values;
        for (int k = 0; k < now.length; k++) {
            Check.same(what + ": " + nameOf(k), now[k], values[k]);
        }
    }

    private static String nameOf(int k) {
        if (k < 34) {
            return "register " + k;
        }
        return k < 34 + Asm.CONTROLS.length ? "control " + Integer.toHexString(Asm.CONTROLS[k - 34]) : "called";
    }
}
