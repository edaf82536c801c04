/** Promises 4, 5 and 6: peek, poke, pokeFour. */
public final class Promise04To06MemoryTest {
    private static final int[] NO_WORDS = {
        -4, -1, 1, 2, 3, 5, 262141, 262142, 262143, 262144, 262148,
        Integer.MIN_VALUE, Integer.MIN_VALUE + 4, Integer.MAX_VALUE, Integer.MAX_VALUE - 3
    };

    public static void main(String[] args) {
        peekRefuses();
        pokeWrites();
        pokeRefuses();
        pokeFourWrites();
        pokeFourRefuses();
        noTranslation();
        Check.done();
    }

    private static void peekRefuses() {
        PagedHart x = new PagedHart();
        for (int address : NO_WORDS) {
            Check.throwsIndex("peek " + address, () -> x.peek(address));
        }
    }

    private static void pokeWrites() {
        PagedHart x = new PagedHart();
        int[] addresses = {0, 4, 8, 1024, 4092, 4096, 131072, 262136, 262140};
        for (int address : addresses) {
            x.poke(address, ~address);
        }
        for (int address : addresses) {
            Check.same("peek " + address, x.peek(address), ~address);
        }
        Check.same("a word not written", x.peek(12), 0);
        x.poke(4, Integer.MIN_VALUE);
        Check.same("a word written again", x.peek(4), Integer.MIN_VALUE);
        Check.same("the word before", x.peek(0), ~0);
        Check.same("the word behind", x.peek(8), ~8);
    }

    private static void pokeRefuses() {
        PagedHart x = new PagedHart();
        for (int address : NO_WORDS) {
            Check.throwsIndex("poke " + address, () -> x.poke(address, -1));
        }
        allZero(x);
    }

    private static void pokeFourWrites() {
        PagedHart x = new PagedHart();
        x.pokeFour(0, 1, 2, 3, 4);
        x.pokeFour(12, 5, 6, 7, 8);
        x.pokeFour(262128, 9, 10, 11, 12);
        int[] due = {1, 2, 3, 5, 6, 7, 8, 0};
        for (int k = 0; k < due.length; k++) {
            Check.same("peek " + 4 * k, x.peek(4 * k), due[k]);
        }
        for (int k = 0; k < 4; k++) {
            Check.same("peek of the last four", x.peek(262128 + 4 * k), 9 + k);
        }
        Check.same("peek before the last four", x.peek(262124), 0);
    }

    private static void pokeFourRefuses() {
        PagedHart x = new PagedHart();
        int[] furtherOnes = {-8, -12, -16, 262132, 262136, 262140};
        for (int address : NO_WORDS) {
            Check.throwsIndex("pokeFour " + address, () -> x.pokeFour(address, -1, -1, -1, -1));
        }
        for (int address : furtherOnes) {
            Check.throwsIndex("pokeFour " + address, () -> x.pokeFour(address, -1, -1, -1, -1));
        }
        allZero(x);
    }

    private static void allZero(PagedHart x) {
        for (int address = 0; address < 32; address += 4) {
            Check.same("peek " + address + " after refusals", x.peek(address), 0);
            int high = 262140 - address;
            Check.same("peek " + high + " after refusals", x.peek(high), 0);
        }
    }

    private static void noTranslation() {
        PagedHart x = new PagedHart();
        x.setRegister(Asm.MODE, 0);
        x.setControl(Asm.TABLES, 0x80000001);
        x.poke(512, 77);
        Check.same("peek with tables on", x.peek(512), 77);
        x.pokeFour(516, 1, 2, 3, 4);
        Check.same("peek of pokeFour's with tables on", x.peek(528), 4);
        Check.same("no trap", x.control(Asm.CAUSE), 0);
    }
}
