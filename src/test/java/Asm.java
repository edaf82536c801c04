/** Instructions' words, by the parts that the document names, and a way to lay them into a memory. */
final class Asm {
    static final int STATUS = 0x100;
    static final int VECTOR = 0x105;
    static final int SCRATCH = 0x140;
    static final int RETURN = 0x141;
    static final int CAUSE = 0x142;
    static final int VALUE = 0x143;
    static final int TABLES = 0x180;
    static final int TURN = 0x5c0;
    static final int WORK = 0x5c1;
    static final int[] CONTROLS = {STATUS, VECTOR, SCRATCH, RETURN, CAUSE, VALUE, TABLES, TURN, WORK};

    static final int PC = 32;
    static final int MODE = 33;

    static final int CALL = 0x73;
    static final int BREAK = 0x100073;
    static final int TRAP_RETURN = 0x10200073;
    static final int WAIT = 0x10500073;
    static final int NOTHING = 0x13;

    private Asm() { }

    /** OP 33 and all others with G. */
    static int r(int op, int g, int f, int d, int a, int b) {
        return g << 25 | b << 20 | a << 15 | f << 12 | d << 7 | op;
    }

    /** With the number I. */
    static int i(int op, int f, int d, int a, int number) {
        return number << 20 | a << 15 | f << 12 | d << 7 | op;
    }

    /** With the number S. */
    static int s(int f, int a, int b, int number) {
        return (number >> 5 & 0x7f) << 25 | b << 20 | a << 15 | f << 12 | (number & 31) << 7 | 0x23;
    }

    /** A branch by so many bytes. */
    static int branch(int f, int a, int b, int distance) {
        int c = distance >> 1;
        return (c >> 11 & 1) << 31 | (c >> 4 & 0x3f) << 25 | b << 20 | a << 15 | f << 12
            | (c & 0xf) << 8 | (c >> 10 & 1) << 7 | 0x63;
    }

    /** A jump by so many bytes. */
    static int jump(int d, int distance) {
        int j = distance >> 1;
        return (j >> 19 & 1) << 31 | (j & 0x3ff) << 21 | (j >> 10 & 1) << 20 | (j >> 11 & 0xff) << 12
            | d << 7 | 0x6f;
    }

    static int jumpTo(int d, int a, int number) {
        return i(0x67, 0, d, a, number);
    }

    static int u(int op, int d, int upper) {
        return upper << 12 | d << 7 | op;
    }

    static int add(int d, int a, int number) {
        return i(0x13, 0, d, a, number);
    }

    static int load(int f, int d, int a, int number) {
        return i(3, f, d, a, number);
    }

    static int control(int f, int d, int a, int n) {
        return i(0x73, f, d, a, n);
    }

    /** An object with these words from address 0 on. */
    static PagedHart of(int... words) {
        PagedHart x = new PagedHart();
        put(x, 0, words);
        return x;
    }

    static void put(PagedHart x, int address, int... words) {
        for (int k = 0; k < words.length; k++) {
            x.poke(address + 4 * k, words[k]);
        }
    }

    /** One step of an object whose last step must have been done without a trap, or with one. */
    static void trapDue(String what, PagedHart x, int cause, int value, int from) {
        x.setControl(CAUSE, 0x7777);
        x.setControl(VECTOR, 0x3f00);
        int mode = x.register(MODE);
        int sum = x.control(STATUS) & 0x40000;
        Check.same(what + ": run(1)", x.run(1), 1);
        Check.same(what + ": called", x.called(), false);
        Check.same(what + ": CAUSE", x.control(CAUSE), cause);
        Check.same(what + ": VALUE", x.control(VALUE), value);
        Check.same(what + ": RETURN", x.control(RETURN), from);
        Check.same(what + ": STATUS", x.control(STATUS), mode << 8 | sum);
        Check.same(what + ": mode", x.register(MODE), 1);
        Check.same(what + ": PC", x.register(PC), 0x3f00);
    }

    static void doneDue(String what, PagedHart x, int next) {
        x.setControl(CAUSE, 0x7777);
        x.setControl(VECTOR, 0x3f00);
        Check.same(what + ": run(1)", x.run(1), 1);
        Check.same(what + ": CAUSE", x.control(CAUSE), 0x7777);
        Check.same(what + ": PC", x.register(PC), next);
    }
}
