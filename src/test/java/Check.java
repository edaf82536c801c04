import java.util.NoSuchElementException;

/** Counts and prints the answers that are not as due; each test ends with done(). */
final class Check {
    interface Call {
        void make();
    }

    private static int wrong = 0;

    private Check() { }

    static void same(String what, long got, long due) {
        if (got != due) {
            wrong++;
            System.out.println(what + " answered " + got + " (" + Long.toHexString(got) + "), due is "
                + due + " (" + Long.toHexString(due) + ")");
        }
    }

    static void same(String what, boolean got, boolean due) {
        same(what, got ? 1 : 0, due ? 1 : 0);
    }

    static void throwsIndex(String what, Call call) {
        throwsJust(what, IndexOutOfBoundsException.class, call);
    }

    static void throwsArgument(String what, Call call) {
        throwsJust(what, IllegalArgumentException.class, call);
    }

    static void throwsNoSuch(String what, Call call) {
        throwsJust(what, NoSuchElementException.class, call);
    }

    /** Just that class: a machine's ArrayIndexOutOfBoundsException would be one below it. */
    static void throwsJust(String what, Class<? extends RuntimeException> due, Call call) {
        try {
            call.make();
        } catch (RuntimeException e) {
            if (e.getClass() != due) {
                wrong++;
                System.out.println(what + " threw " + e.getClass().getName() + ", due is " + due.getName());
            }
            return;
        }
        wrong++;
        System.out.println(what + " threw nothing, due is " + due.getName());
    }

    /** A test of its own for a sentence of the document: tells which sentence is broken. */
    static void sentence(String words, Call test) {
        int before = wrong;
        try {
            test.make();
        } catch (RuntimeException e) {
            wrong++;
            System.out.println("a call threw " + e);
        }
        if (wrong != before) {
            System.out.println("BROKEN: " + words);
        }
    }

    static void done() {
        System.out.println(wrong == 0 ? "all answers are as due" : wrong + " answers are not as due");
        if (wrong != 0) {
            System.exit(1);
        }
    }
}
