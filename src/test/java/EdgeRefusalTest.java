import java.util.NoSuchElementException;

/** "Methods throw what their comments name; a call that throws changes nothing." */
public final class EdgeRefusalTest {
    private interface Refused {
        void call(PagedHart x, int wrong);
    }

    private static final int MIN = Integer.MIN_VALUE;
    private static final int MAX = Integer.MAX_VALUE;
    private static final int[] NO_WORDS = {
        -1, -2, -3, -4, -8, -262144, 1, 2, 3, 5, 6, 7, 262137, 262141, 262142, 262143, 262144, 262148, 524288,
        MIN, MIN + 4, MAX, MAX - 3
    };
    private static final int[] NO_FOUR_WORDS = {
        -4, -8, -12, -16, 1, 2, 3, 262129, 262130, 262131, 262132, 262136, 262140, 262141, 262144,
        MIN, MIN + 4, MAX, MAX - 3, MAX - 11, MAX - 15
    };
    private static final int[] NO_REGISTERS = {-1, -2, -32, 34, 35, 63, 64, 128, MIN, MIN + 1, MIN + 33, MAX};
    private static final int[] NO_CONTROLS = {
        0, 1, 8, 9, 0xff, 0x101, 0x104, 0x106, 0x13f, 0x144, 0x17f, 0x181, 0x5bf, 0x5c2, 0x300, 0xfff,
        0x1100, 0x10005c0, -1, -0x100, MIN, MIN | 0x100, MAX
    };

    public static void main(String[] args) {
        Check.sentence("run: IllegalArgumentException when most is not 0 .. 20000", () ->
            refuses("run", IllegalArgumentException.class, new int[] {-1, -2, 20001, 20002, MIN, MIN + 1, MAX},
                (x, most) -> x.run(most)));
        Check.sentence("peek: IndexOutOfBoundsException when address is none of a word", () ->
            refuses("peek", IndexOutOfBoundsException.class, NO_WORDS, (x, address) -> x.peek(address)));
        Check.sentence("poke: IndexOutOfBoundsException", () ->
            refuses("poke", IndexOutOfBoundsException.class, NO_WORDS, (x, address) -> x.poke(address, 0x5a5a5a5a)));
        Check.sentence("pokeFour: IndexOutOfBoundsException: one is none of the memory's", () ->
            refuses("pokeFour", IndexOutOfBoundsException.class, NO_FOUR_WORDS,
                (x, address) -> x.pokeFour(address, 0x51515151, 0x52525252, 0x53535353, 0x54545454)));
        Check.sentence("register: IndexOutOfBoundsException", () ->
            refuses("register", IndexOutOfBoundsException.class, NO_REGISTERS, (x, i) -> x.register(i)));
        Check.sentence("setRegister: IndexOutOfBoundsException", () ->
            refuses("setRegister", IndexOutOfBoundsException.class, NO_REGISTERS, (x, i) -> x.setRegister(i, 0x5b)));
        Check.sentence("control: NoSuchElementException when there is none of that number", () ->
            refuses("control", NoSuchElementException.class, NO_CONTROLS, (x, n) -> x.control(n)));
        Check.sentence("setControl: NoSuchElementException", () ->
            refuses("setControl", NoSuchElementException.class, NO_CONTROLS, (x, n) -> x.setControl(n, 0x5c)));
        Check.sentence("translate: IllegalArgumentException for another how", () -> {
            int[] hows = {-1, -2, 3, 4, MIN, MIN + 1, MAX};
            refuses("translate", IllegalArgumentException.class, hows, (x, how) -> x.translate(0, how));
            // Of an address that would be refused with any how, too.
            refuses("translate -1", IllegalArgumentException.class, hows, (x, how) -> x.translate(-1, how));
        });
        Check.done();
    }

    /** In the user's mode behind a call, with no word, register or control at hand that is 0. */
    private static PagedHart prepared() {
        PagedHart x = new PagedHart();
        x.poke(0x3c, Asm.CALL);
        x.setRegister(Asm.PC, 0x3c);
        x.run(1);
        for (int address = 0; address < 64; address += 16) {
            x.pokeFour(address, ~address, ~address - 1, ~address - 2, ~address - 3);
            x.pokeFour(262128 - address, address + 1, address + 2, address + 3, address + 4);
        }
        // A user's loop that writes; what stops its turn goes to a call.
        Asm.put(x, 0x40, Asm.add(1, 1, 1), Asm.s(2, 0, 1, 0x200), Asm.jump(0, -8));
        x.poke(0x80, Asm.CALL);
        for (int i = 1; i < 32; i++) {
            x.setRegister(i, 1000 + i);
        }
        x.setRegister(Asm.PC, 0x40);
        x.setRegister(Asm.MODE, 0);
        int[] controls = {0x40100, 0x80, -3, 0x1234, 5, 6, 7, 30, 40};
        for (int k = 0; k < controls.length; k++) {
            x.setControl(Asm.CONTROLS[k], controls[k]);
        }
        return x;
    }

    private static void refuses(String name, Class<? extends RuntimeException> due, int[] wrongs, Refused refused) {
        for (int wrong : wrongs) {
            refusesOne(name + " " + wrong, due, wrong, refused);
        }
        leavesTheWholeMemory(name, wrongs, refused);
    }

    private static void refusesOne(String what, Class<? extends RuntimeException> due, int wrong, Refused refused) {
        PagedHart x = prepared();
        PagedHart y = prepared();
        State before = State.of(x);
        Check.throwsJust(what, due, () -> refused.call(x, wrong));
        before.due(what + " changes nothing", x);
        // What can't be asked for must not have changed either: both go on alike.
        Check.same(what + ", then run", x.run(20000), 32);
        y.run(20000);
        State.of(y).due(what + ", then run", x);
    }

    /** An object answers 512 calls, so each shows a part of the memory. */
    private static void leavesTheWholeMemory(String name, int[] wrongs, Refused refused) {
        for (int part = 0; part < 256; part++) {
            PagedHart x = prepared();
            PagedHart y = prepared();
            for (int wrong : wrongs) {
                try {
                    refused.call(x, wrong);
                } catch (RuntimeException e) {
                    // Which one is due is asked above.
                }
            }
            for (int k = 0; k < 256; k++) {
                int address = 4 * (256 * part + k);
                Check.same("word " + address + " after refusals of " + name, x.peek(address), y.peek(address));
            }
        }
    }
}
