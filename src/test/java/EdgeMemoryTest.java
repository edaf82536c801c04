/** "MEMORY has 65536 words of 32 bits, at the ADDRESSES 0, 4, .. 262140", and promises 4 to 6. */
public final class EdgeMemoryTest {
    private static final int LAST = 262140;

    public static void main(String[] args) {
        Check.sentence("MEMORY has 65536 words, at the addresses 0, 4, .. 262140", EdgeMemoryTest::firstAndLast);
        Check.sentence("words of 32 bits", EdgeMemoryTest::allBits);
        Check.sentence("each of the 65536 words is one of its own", EdgeMemoryTest::fullMemory);
        Check.sentence("the bytes of a word have the addresses from its own on, the lowest first",
            EdgeMemoryTest::bytesOfAWord);
        Check.sentence("Addresses are words without a sign", EdgeMemoryTest::addressesHaveNoSign);
        Check.sentence("peek: a word of the memory (no translation)", EdgeMemoryTest::peekDoesNotTranslate);
        Check.sentence("poke: writes a word of the memory (no other one, and no translation)", EdgeMemoryTest::pokeWritesOne);
        Check.sentence("pokeFour: writes four words one behind the other", EdgeMemoryTest::pokeFourWritesFour);
        Check.done();
    }

    private static void firstAndLast() {
        PagedHart x = new PagedHart();
        x.poke(0, 11);
        x.poke(LAST, 22);
        Check.same("peek 0", x.peek(0), 11);
        Check.same("peek 4", x.peek(4), 0);
        Check.same("peek 262136", x.peek(LAST - 4), 0);
        Check.same("peek 262140", x.peek(LAST), 22);
        Check.throwsIndex("peek 262144", () -> x.peek(LAST + 4));
        Check.throwsIndex("peek -4", () -> x.peek(-4));
    }

    private static void allBits() {
        PagedHart x = new PagedHart();
        int[] values = {0, 1, -1, Integer.MIN_VALUE, Integer.MAX_VALUE, 0x80000001, 0x7fff8000};
        for (int v : values) {
            x.poke(LAST, v);
            Check.same("a word's bits", x.peek(LAST), v);
            x.pokeFour(0, v, ~v, v, ~v);
            Check.same("the first of four words' bits", x.peek(0), v);
            Check.same("the last of four words' bits", x.peek(12), ~v);
        }
        for (int k = 0; k < 32; k++) {
            x.poke(0, 1 << k);
            Check.same("bit " + k, x.peek(0), 1 << k);
        }
    }

    /** A program writes into each word behind it that word's address; some of them are looked at in each object. */
    private static void fullMemory() {
        int step = 4 * 163;
        for (int from = 0x100; from < 0x100 + step; from += 4) {
            PagedHart x = Asm.of(Asm.s(2, 1, 1, 0), Asm.add(1, 1, 4), Asm.branch(1, 1, 2, -8), Asm.CALL);
            x.setRegister(1, 0x100);
            x.setRegister(2, LAST + 4);
            for (int k = 0; k < 20 && !x.called(); k++) {
                x.run(20000);
            }
            Check.same("called", x.called(), true);
            for (int address = from; address <= LAST; address += step) {
                Check.same("peek " + address, x.peek(address), address);
            }
            Check.same("the word before", x.peek(0xfc), 0);
            Check.same("the program", x.peek(4), Asm.add(1, 1, 4));
        }
    }

    private static void bytesOfAWord() {
        int[] words = {0x200, 0, LAST};
        for (int word : words) {
            PagedHart x = new PagedHart();
            x.poke(word, 0x44332211);
            x.poke(0x100, Asm.load(4, 2, 1, 0));
            x.poke(0x104, Asm.load(5, 3, 4, 0));
            for (int k = 0; k < 4; k++) {
                x.setRegister(1, word + k);
                x.setRegister(4, word + (k & 2));
                x.setRegister(Asm.PC, 0x100);
                x.run(2);
                Check.same("byte " + k + " of " + word, x.register(2), 0x11 * (k + 1));
                Check.same("half of " + word, x.register(3), k < 2 ? 0x2211 : 0x4433);
            }
            x.poke(0x100, Asm.s(0, 1, 2, 0));
            int[] due = {0x443322a5, 0x4433a511, 0x44a52211, 0xa5332211};
            for (int k = 0; k < 4; k++) {
                x.poke(word, 0x44332211);
                x.setRegister(1, word + k);
                x.setRegister(2, 0xa5);
                x.setRegister(Asm.PC, 0x100);
                x.run(1);
                Check.same("byte " + k + " written of " + word, x.peek(word), due[k]);
            }
        }
    }

    private static void addressesHaveNoSign() {
        int[] addresses = {-1, -4, -262144, Integer.MIN_VALUE, Integer.MIN_VALUE + 4, Integer.MAX_VALUE, LAST + 4};
        for (int address : addresses) {
            PagedHart x = Asm.of(Asm.load(0, 2, 1, 0), Asm.s(0, 1, 2, 0));
            x.setRegister(1, address);
            Asm.trapDue("load at " + address, x, 5, address, 0);
            x.setRegister(Asm.PC, 4);
            Asm.trapDue("store at " + address, x, 7, address, 4);
            Check.same("translate " + address, x.translate(address, 1), -6);
        }
    }

    /** All addresses are of no page here, in the user's mode, too. */
    private static PagedHart withEmptyTables() {
        PagedHart x = new PagedHart();
        x.setControl(Asm.TABLES, 0x80000008);
        x.setRegister(Asm.MODE, 0);
        return x;
    }

    private static void peekDoesNotTranslate() {
        PagedHart x = new PagedHart();
        x.poke(LAST, 77);
        x.poke(0x8000, 78);
        x.setControl(Asm.TABLES, 0x80000008);
        x.setRegister(Asm.MODE, 0);
        State before = State.of(x);
        Check.same("peek of the last word", x.peek(LAST), 77);
        Check.same("peek of a table", x.peek(0x8000), 78);
        before.due("peek", x);
    }

    private static void pokeWritesOne() {
        PagedHart x = withEmptyTables();
        State before = State.of(x);
        int[] addresses = {0, 0x100, LAST};
        for (int address : addresses) {
            x.poke(address, ~address);
        }
        before.due("poke", x);
        for (int address : addresses) {
            Check.same("peek " + address, x.peek(address), ~address);
        }
        int[] neighbours = {4, 8, 0xfc, 0x104, 0x108, LAST - 4, LAST - 8};
        for (int address : neighbours) {
            Check.same("peek of a neighbour " + address, x.peek(address), 0);
        }
    }

    private static void pokeFourWritesFour() {
        int[] firsts = {0, 4, 0x200, 0xff8, LAST - 16, LAST - 12};
        for (int first : firsts) {
            PagedHart x = withEmptyTables();
            State before = State.of(x);
            x.pokeFour(first, 1, 2, 3, -4);
            before.due("pokeFour", x);
            int[] due = {1, 2, 3, -4};
            for (int k = 0; k < 4; k++) {
                Check.same("word " + k + " of four at " + first, x.peek(first + 4 * k), due[k]);
            }
            if (first > 0) {
                Check.same("the word before four at " + first, x.peek(first - 4), 0);
            }
            if (first < LAST - 12) {
                Check.same("the word behind four at " + first, x.peek(first + 16), 0);
            }
            Check.same("a word at the other end", x.peek(first < 0x1000 ? LAST : 0), 0);
        }
    }
}
