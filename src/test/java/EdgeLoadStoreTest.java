/** OP 3 and 23: signs, the memory's ends, wrap-arounds, alignment, and what traps leave as it was. */
public final class EdgeLoadStoreTest {
    private static final int MIN = Integer.MIN_VALUE;
    private static final int MAX = Integer.MAX_VALUE;
    private static final int LAST = 262140;
    private static final int[] SIZES = {1, 2, 4, 0, 1, 2};

    public static void main(String[] args) {
        Check.sentence("0 and 1 with a sign, 4 and 5 without", EdgeLoadStoreTest::signs);
        Check.sentence("2 a word", EdgeLoadStoreTest::words);
        Check.sentence("loads at a + I (I with a sign, wraps)", EdgeLoadStoreTest::loadAddresses);
        Check.sentence("stores at a + S (S with a sign, wraps)", EdgeLoadStoreTest::storeAddresses);
        Check.sentence("S bits 25 .. 31 and 7 .. 11; I bits 20 .. 31", EdgeLoadStoreTest::numbersByBits);
        Check.sentence("the lowest bits of b (and no other byte is written)", EdgeLoadStoreTest::lowestBits);
        Check.sentence("the memory's last byte, half and word, and what is behind", EdgeLoadStoreTest::memorysEnd);
        Check.sentence("Words at addresses that can be divided by 4, halves by 2", EdgeLoadStoreTest::alignment);
        Check.sentence("otherwise, before all this: a MISALIGNED trap", EdgeLoadStoreTest::misalignedFirst);
        Check.sentence("traps misaligned 4, access 5, page d; 6, 7, f; VALUE the address", EdgeLoadStoreTest::causes);
        Check.sentence("a load that traps writes no register", EdgeLoadStoreTest::trappedLoads);
        Check.sentence("a store that traps writes no word", EdgeLoadStoreTest::trappedStores);
        Check.sentence("OP 3 has F 0, 1, 2, 4, 5; 23 has F 0, 1, 2", EdgeLoadStoreTest::otherFs);
        Check.sentence("a load into its own A; a store of its own A", EdgeLoadStoreTest::sameRegister);
        Check.done();
    }

    /** A load into register 3 by register 1, or a store of register 2, at 100. */
    private static PagedHart at(int word, int a) {
        PagedHart x = new PagedHart();
        x.poke(0x100, word);
        x.setRegister(Asm.PC, 0x100);
        x.setRegister(1, a);
        x.setRegister(2, 0x8badf00d);
        x.setRegister(3, 0x33333333);
        return x;
    }

    private static void loads(int f, int word, int within, int due) {
        PagedHart x = at(Asm.load(f, 3, 1, 0), 0x200 + within);
        x.poke(0x200, word);
        Asm.doneDue("F " + f, x, 0x104);
        Check.same("F " + f + " at " + within + " of " + Integer.toHexString(word), x.register(3), due);
        Check.same("the word stays", x.peek(0x200), word);
    }

    private static void signs() {
        int[] bytes = {0, 1, 0x7f, 0x80, 0x81, 0xff};
        for (int b : bytes) {
            for (int within = 0; within < 4; within++) {
                // All other bytes have all bits.
                int word = ~((~b & 0xff) << 8 * within);
                loads(0, word, within, b < 0x80 ? b : b - 0x100);
                loads(4, word, within, b);
                int alone = b << 8 * within;
                loads(0, alone, within, b < 0x80 ? b : b - 0x100);
                loads(4, alone, within, b);
            }
        }
        int[] halves = {0, 1, 0x7fff, 0x8000, 0x80ff, 0x7f80, 0xffff};
        for (int h : halves) {
            for (int within = 0; within < 4; within += 2) {
                int word = ~((~h & 0xffff) << 8 * within);
                loads(1, word, within, h < 0x8000 ? h : h - 0x10000);
                loads(5, word, within, h);
                int alone = h << 8 * within;
                loads(1, alone, within, h < 0x8000 ? h : h - 0x10000);
                loads(5, alone, within, h);
            }
        }
    }

    private static void words() {
        int[] values = {0, 1, -1, MIN, MAX, 0x80008080};
        for (int v : values) {
            loads(2, v, 0, v);
            PagedHart x = at(Asm.s(2, 1, 2, 0), 0x200);
            x.setRegister(2, v);
            x.poke(0x200, ~v);
            Asm.doneDue("a word stored", x, 0x104);
            Check.same("a word stored", x.peek(0x200), v);
        }
    }

    private static final int[][] ADDRESSES = {
        // a, the number, the address
        {0, 2047, 2047}, {2048, -2048, 0}, {-1, 1, 0}, {-4, 8, 4}, {-2047, 2047, 0}, {LAST + 2048, -2048, LAST},
        {LAST - 2044, 2044, LAST}, {0x200, 0, 0x200}, {0x201, -1, 0x200},
        {0, -1, -1}, {0, -2048, -2048}, {4, -8, -4}, {MAX, 1, MIN}, {MIN, -1, MAX}, {LAST, 4, LAST + 4}, {-1, 0, -1}
    };

    private static void loadAddresses() {
        for (int[] row : ADDRESSES) {
            PagedHart x = at(Asm.load(4, 3, 1, row[1]), row[0]);
            int address = row[2];
            if (address >= 0 && address < LAST + 4) {
                x.poke(address & ~3, 0xd1 << 8 * (address & 3));
                Asm.doneDue("a load", x, 0x104);
                Check.same("a load at " + row[0] + " + " + row[1], x.register(3), 0xd1);
            } else {
                Asm.trapDue("a load at " + row[0] + " + " + row[1], x, 5, address, 0x100);
            }
        }
    }

    private static void storeAddresses() {
        for (int[] row : ADDRESSES) {
            PagedHart x = at(Asm.s(0, 1, 2, row[1]), row[0]);
            int address = row[2];
            if (address >= 0 && address < LAST + 4) {
                Asm.doneDue("a store", x, 0x104);
                Check.same("a store at " + row[0] + " + " + row[1], x.peek(address & ~3), 0x0d << 8 * (address & 3));
            } else {
                Asm.trapDue("a store at " + row[0] + " + " + row[1], x, 7, address, 0x100);
            }
        }
    }

    private static void numbersByBits() {
        for (int k = 0; k < 12; k++) {
            int number = k == 11 ? -2048 : 1 << k;
            PagedHart x = at(1 << 20 + k | Asm.load(4, 3, 1, 0), 0x3000);
            x.poke(0x3000 + number & ~3, 0xd2 << 8 * (number & 3));
            Asm.doneDue("bit " + k + " of I", x, 0x104);
            Check.same("bit " + k + " of I", x.register(3), 0xd2);
            int bit = k < 5 ? 7 + k : 20 + k;
            PagedHart y = at(1 << bit | Asm.s(0, 1, 2, 0), 0x3000);
            Asm.doneDue("bit " + k + " of S", y, 0x104);
            Check.same("bit " + k + " of S", y.peek(0x3000 + number & ~3), 0x0d << 8 * (number & 3));
        }
    }

    private static void lowestBits() {
        int[] values = {0, -1, 0x8badf00d, 0x12345678};
        for (int v : values) {
            for (int f = 0; f < 3; f++) {
                for (int within = 0; within < 4; within += SIZES[f]) {
                    PagedHart x = at(Asm.s(f, 1, 2, 0), 0x200 + within);
                    x.setRegister(2, v);
                    x.pokeFour(0x1f8, 0x11111111, 0x22222222, 0x33333333, 0x44444444);
                    Asm.doneDue("a store", x, 0x104);
                    long mask = (1L << 8 * SIZES[f]) - 1 << 8 * within;
                    int due = (int) (0x33333333 & ~mask | (long) v << 8 * within & mask);
                    Check.same("F " + f + " at " + within + " of " + v, x.peek(0x200), due);
                    Check.same("the word before", x.peek(0x1fc), 0x22222222);
                    Check.same("the word behind", x.peek(0x204), 0x44444444);
                    Check.same("b", x.register(2), v);
                }
            }
        }
    }

    private static void memorysEnd() {
        int[] fs = {0, 1, 2, 4, 5};
        for (int f : fs) {
            int last = LAST + 4 - SIZES[f];
            PagedHart x = at(Asm.load(f, 3, 1, 0), last);
            x.poke(LAST, 0x51525354);
            Asm.doneDue("the last of F " + f, x, 0x104);
            Check.same("the last of F " + f, x.register(3), 0x51525354 >>> 8 * (4 - SIZES[f]));
            Asm.trapDue("behind the last of F " + f, at(Asm.load(f, 3, 1, 0), LAST + 4), 5, LAST + 4, 0x100);
            Asm.trapDue("the last address of F " + f, at(Asm.load(f, 3, 1, 0), -SIZES[f]), 5, -SIZES[f], 0x100);
        }
        int[] dues = {0x0d000000, 0xf00d0000, 0x8badf00d};
        for (int f = 0; f < 3; f++) {
            PagedHart x = at(Asm.s(f, 1, 2, 0), LAST + 4 - SIZES[f]);
            Asm.doneDue("the last store of F " + f, x, 0x104);
            Check.same("the last store of F " + f, x.peek(LAST), dues[f]);
            Asm.trapDue("behind the last of F " + f, at(Asm.s(f, 1, 2, 0), LAST + 4), 7, LAST + 4, 0x100);
            Asm.trapDue("the last address of F " + f, at(Asm.s(f, 1, 2, 0), -SIZES[f]), 7, -SIZES[f], 0x100);
        }
    }

    private static void alignment() {
        for (int within = 0; within < 8; within++) {
            int address = 0x200 + within;
            int[] fs = {0, 1, 2, 4, 5};
            for (int f : fs) {
                PagedHart x = at(Asm.load(f, 3, 1, 0), address);
                if (within % SIZES[f] == 0) {
                    Asm.doneDue("load F " + f + " at " + within, x, 0x104);
                } else {
                    Asm.trapDue("load F " + f + " at " + within, x, 4, address, 0x100);
                }
            }
            for (int f = 0; f < 3; f++) {
                PagedHart x = at(Asm.s(f, 1, 2, 0), address);
                if (within % SIZES[f] == 0) {
                    Asm.doneDue("store F " + f + " at " + within, x, 0x104);
                } else {
                    Asm.trapDue("store F " + f + " at " + within, x, 6, address, 0x100);
                }
            }
        }
    }

    /** Code in page 0 for the supervisor; no other page, and tables behind the memory for the next 4 MB. */
    private static PagedHart paged(int word, int a) {
        PagedHart x = at(word, a);
        x.poke(0x2000, 3 << 10 | 1);
        x.poke(0x2004, 64 << 10 | 1);
        x.poke(0x3000, 0xcf);
        x.poke(0x3008, 64 << 10 | 0xcf);
        x.setControl(Asm.TABLES, 0x80000002);
        return x;
    }

    private static void misalignedFirst() {
        int[] addresses = {0x1001, 0x2001, 0x400001, 0x7fffffff, -1};
        for (int address : addresses) {
            Asm.trapDue("word load by pages", paged(Asm.load(2, 3, 1, 0), address), 4, address, 0x100);
            Asm.trapDue("half load by pages", paged(Asm.load(5, 3, 1, 0), address), 4, address, 0x100);
            Asm.trapDue("word store by pages", paged(Asm.s(2, 1, 2, 0), address), 6, address, 0x100);
            Asm.trapDue("half store by pages", paged(Asm.s(1, 1, 2, 0), address), 6, address, 0x100);
        }
        int[] far = {LAST + 5, LAST + 7, -1, -3, MIN + 1, MAX};
        for (int address : far) {
            Asm.trapDue("word load", at(Asm.load(2, 3, 1, 0), address), 4, address, 0x100);
            Asm.trapDue("half load", at(Asm.load(1, 3, 1, 0), address), 4, address, 0x100);
            Asm.trapDue("word store", at(Asm.s(2, 1, 2, 0), address), 6, address, 0x100);
            Asm.trapDue("half store", at(Asm.s(1, 1, 2, 0), address), 6, address, 0x100);
        }
        Asm.trapDue("word load 2 before the end", at(Asm.load(2, 3, 1, 0), LAST + 2), 4, LAST + 2, 0x100);
        Asm.trapDue("word store 2 before the end", at(Asm.s(2, 1, 2, 0), LAST + 2), 6, LAST + 2, 0x100);
    }

    private static void causes() {
        int[] fs = {0, 1, 2, 4, 5};
        for (int f : fs) {
            Asm.trapDue("load of no page", paged(Asm.load(f, 3, 1, 0), 0x1000), 0xd, 0x1000, 0x100);
            Asm.trapDue("load of a page behind the memory", paged(Asm.load(f, 3, 1, 4), 0x2000), 5, 0x2004, 0x100);
            Asm.trapDue("load by a table behind it", paged(Asm.load(f, 3, 1, -4), 0x400008), 5, 0x400004, 0x100);
        }
        for (int f = 0; f < 3; f++) {
            Asm.trapDue("store of no page", paged(Asm.s(f, 1, 2, 0), 0x1000), 0xf, 0x1000, 0x100);
            Asm.trapDue("store of a page behind the memory", paged(Asm.s(f, 1, 2, 4), 0x2000), 7, 0x2004, 0x100);
            Asm.trapDue("store by a table behind it", paged(Asm.s(f, 1, 2, -4), 0x400008), 7, 0x400004, 0x100);
        }
    }

    private static void trappedLoads() {
        int[] addresses = {0x1000, 0x1001, 0x2000, 0x400000};
        for (int address : addresses) {
            PagedHart x = paged(Asm.load(2, 3, 1, 0), address);
            x.run(1);
            Check.same("register 3", x.register(3), 0x33333333);
            PagedHart y = paged(Asm.load(2, 1, 1, 0), address);
            y.run(1);
            Check.same("register 1", y.register(1), address);
        }
    }

    private static void trappedStores() {
        // Where words would be, were the address taken for one within the memory.
        int[] addresses = {LAST + 4, LAST + 8, -4, MIN, MIN + 4, 1, 2, 3, LAST + 2, LAST + 3, LAST + 5};
        int[] places = {0, 4, LAST, LAST - 4};
        for (int address : addresses) {
            PagedHart x = at(Asm.s(2, 1, 2, 0), address);
            x.run(1);
            for (int place : places) {
                Check.same("word " + place + " after a store at " + address, x.peek(place), 0);
            }
        }
        PagedHart y = paged(Asm.s(2, 1, 2, 0), 0x1000);
        y.run(1);
        Check.same("the word of no page", y.peek(0x1000), 0);
        PagedHart z = paged(Asm.s(2, 1, 2, 0), 8);
        z.poke(0x3000, 0x4f);
        z.run(1);
        Check.same("CAUSE without bit 7", z.control(Asm.CAUSE), 0xf);
        Check.same("the word of a page without bit 7", z.peek(8), 0);
    }

    private static void otherFs() {
        int[] loads = {3, 6, 7};
        int[] addresses = {0x200, 0x201, -4};
        for (int address : addresses) {
            for (int f : loads) {
                int word = Asm.load(f, 3, 1, 0);
                PagedHart x = at(word, address);
                Asm.trapDue("load F " + f, x, 2, word, 0x100);
                Check.same("register 3", x.register(3), 0x33333333);
            }
            for (int f = 3; f < 8; f++) {
                int word = Asm.s(f, 1, 2, 0);
                PagedHart x = at(word, address);
                Asm.trapDue("store F " + f, x, 2, word, 0x100);
                Check.same("the word", x.peek(0x200), 0);
            }
        }
    }

    private static void sameRegister() {
        PagedHart x = at(Asm.load(2, 1, 1, 4), 0x200);
        x.poke(0x204, 0x55667788);
        Asm.doneDue("a load into its own A", x, 0x104);
        Check.same("register 1", x.register(1), 0x55667788);
        PagedHart y = at(Asm.s(2, 1, 1, 4), 0x200);
        Asm.doneDue("a store of its own A", y, 0x104);
        Check.same("the word", y.peek(0x204), 0x200);
    }
}
