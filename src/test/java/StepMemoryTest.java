/** Promise 2, OP 3 and 23: loads and stores, their traps, and pages. */
public final class StepMemoryTest {
    private static final int[] SIZES = {1, 2, 4, 0, 1, 2};

    public static void main(String[] args) {
        loads();
        stores();
        numbers();
        misalignedFirst();
        accessTraps();
        refusals();
        throughPages();
        storedCodeIsFetched();
        storedTablesAreUsed();
        Check.done();
    }

    private static void loads() {
        byte[] bytes = {0x7f, (byte) 0x80, (byte) 0xff, 1, (byte) 0xfe, (byte) 0xca, 0x55, (byte) 0x91};
        PagedHart x = new PagedHart();
        x.poke(0x200, 0x01ff807f);
        x.poke(0x204, 0x9155cafe);
        int[] fs = {0, 1, 2, 4, 5};
        for (int f : fs) {
            for (int k = 0; k < 8; k += SIZES[f]) {
                long due = 0;
                for (int part = SIZES[f] - 1; part >= 0; part--) {
                    due = due << 8 | bytes[k + part] & 0xff;
                }
                int away = 64 - 8 * SIZES[f];
                due = f >= 4 ? due : due << away >> away;
                x.poke(0, Asm.load(f, 3, 1, 0x100));
                x.setRegister(Asm.PC, 0);
                x.setRegister(1, 0x100 + k);
                Asm.doneDue("load F " + f + " of byte " + k, x, 4);
                Check.same("load F " + f + " of byte " + k, x.register(3), due);
            }
        }
    }

    private static void stores() {
        int value = 0x8badf00d;
        for (int f = 0; f < 3; f++) {
            for (int k = 0; k < 4; k += SIZES[f]) {
                PagedHart x = Asm.of(Asm.s(f, 1, 2, 0x100));
                x.pokeFour(0x1fc, 0x11111111, 0x22222222, 0x33333333, 0x44444444);
                x.setRegister(1, 0x100 + k);
                x.setRegister(2, value);
                Asm.doneDue("store F " + f + " at byte " + k, x, 4);
                int mask = (int) ((1L << 8 * SIZES[f]) - 1) << 8 * k;
                Check.same("store F " + f + " at byte " + k, x.peek(0x200),
                    0x22222222 & ~mask | value << 8 * k & mask);
                Check.same("the word before", x.peek(0x1fc), 0x11111111);
                Check.same("the word behind", x.peek(0x204), 0x33333333);
                Check.same("what is stored", x.register(2), value);
            }
        }
    }

    private static void numbers() {
        int[] numbers = {0, 4, 28, 32, 0x7fc, -4, -32, -36, -0x800};
        for (int number : numbers) {
            PagedHart x = Asm.of(Asm.s(2, 1, 2, number), Asm.load(2, 3, 1, number));
            x.setRegister(1, 0x4000);
            x.setRegister(2, 77);
            x.run(2);
            Check.same("stored by " + number, x.peek(0x4000 + number), 77);
            Check.same("loaded by " + number, x.register(3), 77);
        }
        PagedHart y = Asm.of(Asm.s(2, 0, 2, 0), Asm.CALL);
        y.setRegister(2, 78);
        Check.same("steps over a store at 0", y.run(5), 2);
        Check.same("stored at 0", y.peek(0), 78);
        PagedHart x = Asm.of(Asm.load(2, 1, 1, 8));
        x.setRegister(1, -8);
        x.run(1);
        Check.same("an address that wraps", x.register(1), Asm.load(2, 1, 1, 8));
    }

    /** Before translation, and before it is asked whether the memory has the address. */
    private static void misalignedFirst() {
        int[] bases = {0x200, 0x40000, 0x80000000};
        for (int tables = 0; tables < 2; tables++) {
            for (int base : bases) {
                for (int k = 1; k < 4; k++) {
                    misaligned(Asm.load(2, 3, 1, k), base, k, 4, tables);
                    misaligned(Asm.s(2, 1, 2, k), base, k, 6, tables);
                }
                for (int k = 1; k < 4; k += 2) {
                    misaligned(Asm.load(1, 3, 1, k), base, k, 4, tables);
                    misaligned(Asm.load(5, 3, 1, k), base, k, 4, tables);
                    misaligned(Asm.s(1, 1, 2, k), base, k, 6, tables);
                }
            }
        }
    }

    private static void misaligned(int word, int base, int k, int cause, int tables) {
        PagedHart x = Asm.of(word);
        // Just the first large page, to fetch: there the words stand.
        x.poke(0x2000, 0x49);
        x.setControl(Asm.TABLES, tables << 31 | 2);
        x.setRegister(1, base);
        x.setRegister(2, -1);
        x.setRegister(3, 0x3333);
        String what = "word " + Integer.toHexString(word) + " at " + Integer.toHexString(base + k);
        Asm.trapDue(what, x, cause, base + k, 0);
        Check.same(what + ": register 3", x.register(3), 0x3333);
        Check.same(what + ": memory", x.peek(0x200), 0);
    }

    private static void accessTraps() {
        int[] addresses = {0x40000, 0x40004, 0x80000000, -4};
        for (int address : addresses) {
            for (int f = 0; f < 6; f++) {
                if (f != 3) {
                    PagedHart x = Asm.of(Asm.load(f, 3, 1, 0));
                    x.setRegister(1, address);
                    x.setRegister(3, 0x3333);
                    Asm.trapDue("load F " + f + " at " + address, x, 5, address, 0);
                    Check.same("register 3", x.register(3), 0x3333);
                }
                if (f < 3) {
                    PagedHart x = Asm.of(Asm.s(f, 1, 1, 0));
                    x.setRegister(1, address);
                    Asm.trapDue("store F " + f + " at " + address, x, 7, address, 0);
                }
            }
        }
        PagedHart x = Asm.of(Asm.load(2, 0, 1, 0));
        x.setRegister(1, 0x40000);
        Asm.trapDue("load into register 0", x, 5, 0x40000, 0);
        PagedHart y = Asm.of(Asm.s(0, 1, 2, 3), Asm.load(4, 3, 1, 3));
        y.setRegister(1, 0x3fffc);
        y.setRegister(2, 0xab);
        y.run(2);
        Check.same("the last byte", y.register(3), 0xab);
        Check.same("the last word", y.peek(0x3fffc), 0xab000000);
    }

    private static void refusals() {
        int[] loads = {3, 6, 7};
        for (int f : loads) {
            // Not misaligned, though no word could be loaded there: it is no load at all.
            int word = Asm.load(f, 3, 0, 1);
            Asm.trapDue("load F " + f, Asm.of(word), 2, word, 0);
        }
        for (int f = 3; f < 8; f++) {
            int word = Asm.s(f, 0, 3, 1);
            PagedHart x = Asm.of(word);
            Asm.trapDue("store F " + f, x, 2, word, 0);
            Check.same("memory", x.peek(0), word);
        }
    }

    private static void throughPages() {
        PagedHart x = new PagedHart();
        x.pokeFour(0, Asm.s(2, 1, 2, 8), Asm.load(2, 3, 1, 8), Asm.load(2, 3, 4, 0), Asm.s(0, 4, 2, 1));
        x.poke(0x2000, 0x49);
        x.poke(0x2004, 3 << 10 | 1);
        x.poke(0x3000, 5 << 10 | 0xc7);
        x.poke(0x3004, 6 << 10 | 0x47);
        x.setControl(Asm.TABLES, 0x80000002);
        x.setRegister(1, 0x400000);
        x.setRegister(2, 0x1234);
        x.setRegister(4, 0x402004);
        Asm.doneDue("store", x, 4);
        Check.same("stored", x.peek(0x5008), 0x1234);
        Asm.doneDue("load", x, 8);
        Check.same("loaded", x.register(3), 0x1234);
        Asm.trapDue("load of no page", x, 0xd, 0x402004, 8);
        x.setRegister(Asm.PC, 12);
        Asm.trapDue("store in no page", x, 0xf, 0x402005, 12);
        x.setRegister(4, 0x401004);
        x.setRegister(Asm.PC, 8);
        Asm.doneDue("load of a page without bit 7", x, 12);
        Asm.trapDue("store in a page without bit 7", x, 0xf, 0x401005, 12);
        x.setRegister(Asm.PC, 0x401000);
        Asm.trapDue("fetch without bit 3", x, 0xc, 0x401000, 0x401000);
    }

    private static void storedCodeIsFetched() {
        PagedHart x = Asm.of(Asm.s(2, 0, 2, 8), Asm.NOTHING, Asm.add(1, 1, 1), Asm.jump(0, -12));
        x.setRegister(2, Asm.add(1, 1, 100));
        x.setRegister(Asm.PC, 8);
        x.run(5);
        Check.same("register 1", x.register(1), 101);
        x.poke(8, Asm.add(1, 1, 1000));
        x.setRegister(Asm.PC, 8);
        x.run(1);
        Check.same("register 1 after a poke", x.register(1), 1101);
        PagedHart y = Asm.of(Asm.s(2, 0, 2, 4), 0, Asm.CALL);
        y.setRegister(2, Asm.add(1, 1, 7));
        Check.same("steps over the very next word", y.run(9), 3);
        Check.same("register 1", y.register(1), 7);
    }

    private static void storedTablesAreUsed() {
        PagedHart x = new PagedHart();
        // The program writes its own table: the page that it loads from, and then the one that it is in.
        x.pokeFour(0, Asm.load(2, 3, 1, 0), Asm.s(2, 5, 4, 4), Asm.load(2, 6, 1, 0), Asm.s(2, 5, 0, 0));
        x.poke(0x2000, 3 << 10 | 1);
        x.poke(0x3000, 0xcf);
        x.poke(0x3004, 8 << 10 | 0xcf);
        x.poke(0x3008, 3 << 10 | 0xcf);
        x.poke(0x8000, 88);
        x.poke(0x9000, 99);
        x.setControl(Asm.TABLES, 0x80000002);
        x.setRegister(1, 0x1000);
        x.setRegister(4, 9 << 10 | 0xcf);
        x.setRegister(5, 0x2000);
        x.run(3);
        Check.same("loaded by the old entry", x.register(3), 88);
        Check.same("loaded by the new entry", x.register(6), 99);
        Asm.doneDue("store of 0 over the program's own entry", x, 16);
        Asm.trapDue("fetch by it", x, 0xc, 16, 16);
    }
}
