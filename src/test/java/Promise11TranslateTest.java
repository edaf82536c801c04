/** Promise 11: translate, and so the translation of the document's terms. */
public final class Promise11TranslateTest {
    private static final int FETCH = 0;
    private static final int LOAD = 1;
    private static final int STORE = 2;
    private static final int[] ACCESS = {-2, -6, -8};
    private static final int[] PAGE = {-13, -14, -16};

    // The first level's table stands at 0x2000, a second level's at 0x3000.
    private static final int TABLES = 0x80000002;
    private static final int VALID = 1;
    private static final int READ = 2;
    private static final int WRITE = 4;
    private static final int EXECUTE = 8;
    private static final int USER = 16;
    private static final int ACCESSED = 64;
    private static final int DIRTY = 128;

    public static void main(String[] args) {
        refusesOtherHows();
        withoutTables();
        firstLevelOfAllBits();
        secondLevelOfAllBits();
        largePages();
        smallPages();
        tablesOutOfMemory();
        wraps();
        seesWhatChanged();
        changesNothing();
        Check.done();
    }

    private static PagedHart withTables() {
        PagedHart x = new PagedHart();
        x.setControl(Asm.TABLES, TABLES);
        return x;
    }

    private static void refusesOtherHows() {
        PagedHart x = new PagedHart();
        int[] wrongOnes = {-1, 3, 4, Integer.MIN_VALUE, Integer.MAX_VALUE};
        for (int how : wrongOnes) {
            Check.throwsArgument("translate how " + how, () -> x.translate(0, how));
        }
    }

    private static void withoutTables() {
        for (int mode = 0; mode < 2; mode++) {
            PagedHart x = new PagedHart();
            x.setRegister(Asm.MODE, mode);
            x.setControl(Asm.TABLES, 0x7fffffff);
            for (int how = FETCH; how <= STORE; how++) {
                Check.same("translate 0", x.translate(0, how), 0);
                Check.same("translate 3", x.translate(3, how), 3);
                Check.same("translate 262143", x.translate(262143, how), 262143);
                Check.same("translate 262144", x.translate(262144, how), ACCESS[how]);
                Check.same("translate -1", x.translate(-1, how), ACCESS[how]);
                Check.same("translate -2 to the 31", x.translate(Integer.MIN_VALUE, how), ACCESS[how]);
            }
        }
    }

    /** What the document says of an entry, told as a list. */
    private static boolean permitted(int entry, int how, int mode, int sum) {
        boolean ok = (entry & VALID) != 0;
        ok &= (entry & WRITE) == 0 || (entry & READ) != 0;
        ok &= (entry & READ) != 0 || (entry & EXECUTE) != 0;
        ok &= (entry & ACCESSED) != 0;
        ok &= how != LOAD || (entry & READ) != 0;
        ok &= how != STORE || (entry & WRITE) != 0 && (entry & DIRTY) != 0;
        ok &= how != FETCH || (entry & EXECUTE) != 0;
        if (mode == 0) {
            ok &= (entry & USER) != 0;
        } else if ((entry & USER) != 0) {
            ok &= how != FETCH && sum == 1;
        }
        return ok;
    }

    private static void firstLevelOfAllBits() {
        for (int bits = 0; bits < 1024; bits++) {
            PagedHart x = withTables();
            x.poke(0x2004, bits);
            boolean points = (bits & 15) == VALID;
            for (int setting = 0; setting < 4; setting++) {
                int mode = setting & 1;
                int sum = setting >> 1;
                x.setRegister(Asm.MODE, mode);
                x.setControl(Asm.STATUS, sum << 18);
                for (int how = FETCH; how <= STORE; how++) {
                    int due = !points && permitted(bits, how, mode, sum) ? 0x1235 : PAGE[how];
                    Check.same("first level " + bits + " how " + how + " mode " + mode + " SUM " + sum,
                        x.translate(0x401235, how), due);
                }
            }
        }
    }

    private static void secondLevelOfAllBits() {
        for (int bits = 0; bits < 1024; bits++) {
            PagedHart x = withTables();
            x.poke(0x2000, 3 << 10 | VALID);
            x.poke(0x3008, 5 << 10 | bits);
            for (int setting = 0; setting < 4; setting++) {
                int mode = setting & 1;
                int sum = setting >> 1;
                x.setRegister(Asm.MODE, mode);
                x.setControl(Asm.STATUS, sum << 18);
                for (int how = FETCH; how <= STORE; how++) {
                    int due = permitted(bits, how, mode, sum) ? 0x5677 : PAGE[how];
                    Check.same("second level " + bits + " how " + how + " mode " + mode + " SUM " + sum,
                        x.translate(0x2677, how), due);
                }
            }
        }
    }

    private static void largePages() {
        int bits = VALID | READ | WRITE | EXECUTE | ACCESSED | DIRTY;
        PagedHart x = withTables();
        x.poke(0x2000, bits);
        x.poke(0x2ffc, bits);
        Check.same("its first byte", x.translate(0, LOAD), 0);
        Check.same("the memory's last byte", x.translate(0x3ffff, LOAD), 0x3ffff);
        Check.same("behind the memory", x.translate(0x40000, LOAD), -6);
        Check.same("its last byte", x.translate(0x3fffff, STORE), -8);
        Check.same("the next large page", x.translate(0x400000, LOAD), -14);
        Check.same("the last large page", x.translate(0xffc31234, LOAD), 0x31234);
        for (int bit = 10; bit < 20; bit++) {
            x.poke(0x2000, bits | 1 << bit);
            for (int how = FETCH; how <= STORE; how++) {
                Check.same("bit " + bit + " of a large page", x.translate(0, how), PAGE[how]);
            }
        }
        for (int bit = 20; bit < 30; bit++) {
            x.poke(0x2000, bits | 1 << bit);
            for (int how = FETCH; how <= STORE; how++) {
                Check.same("bit " + bit + " of a large page", x.translate(0, how), ACCESS[how]);
            }
        }
    }

    private static void smallPages() {
        int bits = VALID | READ | WRITE | EXECUTE | ACCESSED | DIRTY;
        PagedHart x = withTables();
        x.poke(0x2ffc, 3 << 10 | VALID);
        x.poke(0x3ffc, 63 << 10 | bits);
        x.poke(0x3000, 64 << 10 | bits);
        x.poke(0x3004, 3 << 10 | VALID);
        Check.same("the last byte of all", x.translate(-1, LOAD), 0x3ffff);
        Check.same("the last page", x.translate(0xfffff000, STORE), 0x3f000);
        Check.same("a page behind the memory", x.translate(0xffc00000, FETCH), -2);
        Check.same("a page behind the memory", x.translate(0xffc00000, LOAD), -6);
        Check.same("a page behind the memory", x.translate(0xffc00000, STORE), -8);
        Check.same("a pointer on the second level", x.translate(0xffc01000, LOAD), -14);
        Check.same("an entry of 0", x.translate(0xffc02000, LOAD), -14);
    }

    private static void tablesOutOfMemory() {
        PagedHart x = new PagedHart();
        int bits = VALID | READ | WRITE | EXECUTE | ACCESSED | DIRTY;
        x.setControl(Asm.TABLES, 0x80000040);
        for (int how = FETCH; how <= STORE; how++) {
            Check.same("first table behind the memory", x.translate(0, how), ACCESS[how]);
        }
        x.setControl(Asm.TABLES, -1);
        for (int how = FETCH; how <= STORE; how++) {
            Check.same("first table far behind the memory", x.translate(0, how), ACCESS[how]);
        }
        x.setControl(Asm.TABLES, 0x8000003f);
        x.poke(0x3fffc, bits);
        Check.same("first table in the last page", x.translate(0xffc00010, LOAD), 0x10);
        x.setControl(Asm.TABLES, TABLES);
        x.poke(0x2000, 64 << 10 | VALID);
        x.poke(0x2004, 0x80000 << 10 | VALID);
        for (int how = FETCH; how <= STORE; how++) {
            Check.same("second table behind the memory", x.translate(0, how), ACCESS[how]);
            Check.same("second table far behind it", x.translate(0x400000, how), ACCESS[how]);
        }
        x.poke(0x2000, 63 << 10 | VALID);
        x.poke(0x3fff8, 7 << 10 | bits);
        Check.same("second table in the last page", x.translate(0x3fe123, FETCH), 0x7123);
    }

    private static void wraps() {
        int bits = VALID | READ | WRITE | EXECUTE | ACCESSED | DIRTY;
        PagedHart x = new PagedHart();
        // Bits 20 and 21 of TABLES and 30 and 31 of entries wrap away; bits 22 .. 30 of TABLES are not used.
        x.setControl(Asm.TABLES, 0xfff00002);
        x.poke(0x2000, 0xc0000000 | 3 << 10 | VALID);
        x.poke(0x3000, 0xc0000000 | 9 << 10 | bits);
        x.poke(0x2004, 0xc0000000 | bits);
        Check.same("small page, wrapped", x.translate(0x321, LOAD), 0x9321);
        Check.same("large page, wrapped", x.translate(0x412345, LOAD), 0x12345);
    }

    private static void seesWhatChanged() {
        int bits = VALID | READ | WRITE | EXECUTE | ACCESSED | DIRTY;
        PagedHart x = withTables();
        x.poke(0x2000, 3 << 10 | VALID);
        x.poke(0x3000, 9 << 10 | bits);
        Check.same("first", x.translate(4, LOAD), 0x9004);
        x.poke(0x3000, 10 << 10 | bits);
        Check.same("second level changed", x.translate(4, LOAD), 0xa004);
        x.pokeFour(0x2000, bits, 0, 0, 0);
        Check.same("first level changed", x.translate(4, LOAD), 4);
        x.setControl(Asm.TABLES, 0x80000004);
        Check.same("TABLES changed", x.translate(4, LOAD), -14);
        x.setControl(Asm.TABLES, 0);
        Check.same("TABLES off", x.translate(8, LOAD), 8);
        x.setControl(Asm.TABLES, TABLES);
        x.setRegister(Asm.MODE, 0);
        Check.same("mode changed", x.translate(4, LOAD), -14);
        x.poke(0x2000, bits | USER);
        Check.same("the user's", x.translate(4, LOAD), 4);
        x.setRegister(Asm.MODE, 1);
        Check.same("the user's, without SUM", x.translate(4, LOAD), -14);
        x.setControl(Asm.STATUS, 0x40000);
        Check.same("the user's, with SUM", x.translate(4, LOAD), 4);
        Check.same("the user's, with SUM, to fetch", x.translate(4, FETCH), -13);
    }

    private static void changesNothing() {
        PagedHart x = withTables();
        x.setRegister(Asm.MODE, 0);
        x.setControl(Asm.WORK, 5);
        x.translate(0, FETCH);
        x.translate(1, LOAD);
        x.translate(1, STORE);
        Check.same("CAUSE", x.control(Asm.CAUSE), 0);
        Check.same("mode", x.register(Asm.MODE), 0);
        Check.same("WORK", x.control(Asm.WORK), 5);
        Check.same("PC", x.register(Asm.PC), 0);
        Check.same("called", x.called(), false);
    }
}
