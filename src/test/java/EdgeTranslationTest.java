/** "TRANSLATION of an address, to fetch, load or store there": by translate, and by a step that does it. */
public final class EdgeTranslationTest {
    private static final int FETCH = 0;
    private static final int LOAD = 1;
    private static final int STORE = 2;
    private static final int[] HOWS = {FETCH, LOAD, STORE};
    private static final int[] ACCESS = {-1 - 1, -1 - 5, -1 - 7};
    private static final int[] PAGE = {-1 - 0xc, -1 - 0xd, -1 - 0xf};

    /** Bits 0, 1, 2, 3, 6, 7: a supervisor's page for every use; bit 4 makes it a user's. */
    private static final int ALL = 0xcf;
    private static final int USERS = 0x10;
    private static final int POINTER = 1;

    // The first table at 2000, a second one at 3000. The instructions stand at 100, in large pages for each mode.
    private static final int FIRST = 0x2000;
    private static final int SECOND = 0x3000;
    private static final int[] CODE = {0x80400100, 0x80000100};

    public static void main(String[] args) {
        Check.sentence("if bit 31 of TABLES is 0, none", EdgeTranslationTest::none);
        Check.sentence("t the bits 0 .. 21 of TABLES times 4096 (wrapping)", EdgeTranslationTest::whereTablesStand);
        Check.sentence("the entry is the word at t + 4 times the bits 22 .. 31", EdgeTranslationTest::firstIndex);
        Check.sentence("if it has bit 0, but none of the bits 1, 2, 3", EdgeTranslationTest::pointers);
        Check.sentence("the word at its bits 10 .. 31 times 4096 (wrapping)", EdgeTranslationTest::whereSecondTablesStand);
        Check.sentence("+ 4 times the bits 12 .. 21 of the address", EdgeTranslationTest::secondIndex);
        Check.sentence("If a word of that is at no address of the memory: an ACCESS trap", EdgeTranslationTest::noTable);
        Check.sentence("The entry must have bit 0", EdgeTranslationTest::bitZero);
        Check.sentence("not bit 2 without bit 1", EdgeTranslationTest::writeWithoutRead);
        Check.sentence("one of the bits 1 and 3", EdgeTranslationTest::oneOfTwo);
        Check.sentence("of the first level bits 10 .. 19 all 0", EdgeTranslationTest::largePagesAreAligned);
        Check.sentence("bit 6", EdgeTranslationTest::bitSix);
        Check.sentence("to load bit 1, to store bits 2 and 7, to fetch bit 3", EdgeTranslationTest::bitsOfUses);
        Check.sentence("in the user's mode bit 4", EdgeTranslationTest::usersMode);
        Check.sentence("in the supervisor's, if it has bit 4: not to fetch, and SUM", EdgeTranslationTest::supervisorsMode);
        Check.sentence("(bits 5, 8 and 9 are asked for nowhere)", EdgeTranslationTest::freeBits);
        Check.sentence("bits 10 .. 31 of the entry times 4096 (wrapping) and bits 0 .. 11 of the address", EdgeTranslationTest::smallPlaces);
        Check.sentence("on the first level bits 12 .. 21 of the address are kept, too", EdgeTranslationTest::largePlaces);
        Check.sentence("An address (translated) of none of the memory's words: an access trap", EdgeTranslationTest::behindTheMemory);
        Check.sentence("Otherwise a PAGE trap: before the place is asked for", EdgeTranslationTest::pageBeforeAccess);
        Check.sentence("translate: in the mode that there is; NONE less the cause; changes nothing", EdgeTranslationTest::translateAlone);
        Check.done();
    }

    private static PagedHart hart(int mode) {
        PagedHart x = new PagedHart();
        x.poke(0x100, Asm.load(4, 3, 1, 0));
        x.poke(0x104, Asm.s(0, 1, 2, 0));
        x.poke(FIRST + 4 * 512, ALL);
        x.poke(FIRST + 4 * 513, ALL | USERS);
        x.setControl(Asm.TABLES, 0x80000002);
        x.setRegister(Asm.MODE, mode);
        return x;
    }

    /** With a second table for the addresses from 0 on, whose entry 0 is this. */
    private static PagedHart withSmallPage(int mode, int entry) {
        PagedHart x = hart(mode);
        x.poke(FIRST, SECOND >> 2 | POINTER);
        x.poke(SECOND, entry);
        return x;
    }

    private static PagedHart withLargePage(int mode, int entry) {
        PagedHart x = hart(mode);
        x.poke(FIRST, entry);
        return x;
    }

    private static int small(int page) {
        return page << 10 | ALL;
    }

    /** The place is an address of the memory from page 5 on, or what translate tells of a trap. */
    private static void due(String what, PagedHart x, int address, int how, int place) {
        String name = what + ", " + Integer.toHexString(address) + " how " + how;
        Check.same(name, x.translate(address, how), place);
        int mode = x.register(Asm.MODE);
        int status = x.control(Asm.STATUS);
        x.setControl(Asm.CAUSE, 0x7777);
        if (how == FETCH) {
            fetched(name, x, address & ~3, place < 0 ? place : place & ~3);
        } else if (how == LOAD) {
            loaded(name, x, address, place, CODE[mode]);
        } else {
            stored(name, x, address, place, CODE[mode] + 4);
        }
        Check.same(name + ": CAUSE", x.control(Asm.CAUSE), place < 0 ? -1 - place : 0x7777);
        if (place < 0) {
            Check.same(name + ": VALUE", x.control(Asm.VALUE), how == FETCH ? address & ~3 : address);
        }
        x.setRegister(Asm.MODE, mode);
        x.setControl(Asm.STATUS, status);
    }

    private static void fetched(String name, PagedHart x, int address, int place) {
        if (place >= 0) {
            x.poke(place, Asm.add(3, 0, 0x123));
        }
        x.setRegister(3, 0x55);
        x.setRegister(Asm.PC, address);
        x.run(1);
        Check.same(name + ": fetched", x.register(3), place < 0 ? 0x55 : 0x123);
    }

    private static void loaded(String name, PagedHart x, int address, int place, int code) {
        if (place >= 0) {
            x.poke(place & ~3, 0xc9 << 8 * (place & 3));
        }
        x.setRegister(1, address);
        x.setRegister(3, 0x55);
        x.setRegister(Asm.PC, code);
        x.run(1);
        Check.same(name + ": loaded", x.register(3), place < 0 ? 0x55 : 0xc9);
    }

    private static void stored(String name, PagedHart x, int address, int place, int code) {
        if (place >= 0) {
            x.poke(place & ~3, 0);
        }
        x.setRegister(1, address);
        x.setRegister(2, 0xe7);
        x.setRegister(Asm.PC, code);
        x.run(1);
        if (place >= 0) {
            Check.same(name + ": stored", x.peek(place & ~3), 0xe7 << 8 * (place & 3));
        }
    }

    private static void dueForAll(String what, PagedHart x, int address, int fetch, int load, int store) {
        due(what, x, address, FETCH, fetch);
        due(what, x, address, LOAD, load);
        due(what, x, address, STORE, store);
    }

    private static void found(String what, PagedHart x, int address, int place) {
        dueForAll(what, x, address, place, place, place);
    }

    private static void refusedByPage(String what, PagedHart x, int address) {
        dueForAll(what, x, address, PAGE[FETCH], PAGE[LOAD], PAGE[STORE]);
    }

    private static void refusedByAccess(String what, PagedHart x, int address) {
        dueForAll(what, x, address, ACCESS[FETCH], ACCESS[LOAD], ACCESS[STORE]);
    }

    private static void none() {
        int[] tables = {0, 1, 2, 0x40000000, 0x7fffffff};
        for (int mode = 0; mode < 2; mode++) {
            for (int t : tables) {
                PagedHart x = new PagedHart();
                x.setRegister(Asm.MODE, mode);
                x.setControl(Asm.TABLES, t);
                for (int how : HOWS) {
                    Check.same("first byte", x.translate(0, how), 0);
                    Check.same("last byte", x.translate(262143, how), 262143);
                    Check.same("the byte behind", x.translate(262144, how), ACCESS[how]);
                    Check.same("the last address", x.translate(-1, how), ACCESS[how]);
                }
                x.poke(0x5000, Asm.load(0, 2, 1, 0));
                x.setRegister(1, 0x3ffff);
                x.poke(0x3fffc, 0x12000000);
                x.setRegister(Asm.PC, 0x5000);
                Asm.doneDue("a step without translation", x, 0x5004);
                Check.same("loaded without translation", x.register(2), 0x12);
            }
        }
        // Bit 31 alone: a table at 0, whose entry 0 is 0.
        PagedHart y = new PagedHart();
        y.setControl(Asm.TABLES, 0x80000000);
        for (int how : HOWS) {
            Check.same("bit 31 alone", y.translate(0, how), PAGE[how]);
        }
        Asm.trapDue("fetch with bit 31 alone", y, 0xc, 0, 0);
    }

    private static void whereTablesStand() {
        for (int bit = 0; bit < 31; bit++) {
            PagedHart x = new PagedHart();
            x.setControl(Asm.TABLES, 0x80000000 | 1 << bit);
            x.poke(0, ALL);
            // A table within the memory is empty, one behind it none; bits from 20 on leave that at 0.
            int due = bit < 6 ? PAGE[LOAD] : bit < 20 ? ACCESS[LOAD] : 0x21;
            Check.same("TABLES bit " + bit, x.translate(0x21, LOAD), due);
            if (bit < 6) {
                x.poke(4096 << bit, ALL);
                Check.same("TABLES bit " + bit + ", its table", x.translate(0x21, LOAD), 0x21);
            }
        }
        PagedHart y = hart(1);
        y.setControl(Asm.TABLES, 0xfff00002);
        y.poke(FIRST, SECOND >> 2 | POINTER);
        y.poke(SECOND, small(5));
        found("bits 20 .. 30 of TABLES do nothing", y, 0x10, 0x5010);
    }

    private static void firstIndex() {
        int[] indexes = {0, 1, 2, 511, 514, 1022, 1023};
        for (int index : indexes) {
            PagedHart x = hart(1);
            x.poke(FIRST + 4 * index, ALL);
            int from = index << 22;
            found("entry " + index, x, from + 0x5000, 0x5000);
            found("entry " + index, x, from + 0x3ffff, 0x3ffff);
            refusedByPage("before entry " + index, x, index == 514 ? from + 0x400000 : from - 1);
            refusedByPage("behind entry " + index, x, index == 511 ? from - 0x400000 : from + 0x400000);
        }
    }

    private static void pointers() {
        for (int low = 0; low < 16; low++) {
            PagedHart x = hart(1);
            // As a pointer it leads to page 5; as a large page its bits 10 .. 19 are not 0.
            x.poke(FIRST, SECOND >> 2 | low | 0xc0);
            x.poke(SECOND, small(5));
            if (low == 1) {
                found("low bits 1", x, 0x123, 0x5123);
            } else {
                refusedByPage("low bits " + low, x, 0x123);
            }
        }
        for (int bits = 0; bits < 64; bits++) {
            // Bits 4 .. 9 of a pointer are asked for nowhere, in neither mode.
            PagedHart x = hart(0);
            x.poke(FIRST, SECOND >> 2 | bits << 4 | POINTER);
            x.poke(SECOND, small(5) | USERS);
            found("a pointer's bits 4 .. 9: " + bits, x, 0x77, 0x5077);
        }
    }

    private static void whereSecondTablesStand() {
        int[] pages = {1, 4, 32, 63};
        for (int page : pages) {
            PagedHart x = hart(1);
            x.poke(FIRST, page << 10 | POINTER);
            x.poke(page * 4096 + 4, small(6));
            found("second table in page " + page, x, 0x1ffc, 0x6ffc);
            x.poke(FIRST, 3 << 30 | page << 10 | POINTER);
            found("second table in page " + page + ", wrapped", x, 0x1ffc, 0x6ffc);
        }
        PagedHart y = hart(1);
        y.poke(FIRST, POINTER);
        y.poke(4, small(7));
        found("second table in page 0", y, 0x1001, 0x7001);
    }

    private static void secondIndex() {
        int[] indexes = {0, 1, 2, 511, 512, 1022, 1023};
        int[] firsts = {0, 1, 1023};
        for (int first : firsts) {
            for (int index : indexes) {
                PagedHart x = hart(1);
                x.poke(FIRST + 4 * first, SECOND >> 2 | POINTER);
                x.poke(SECOND + 4 * index, small(9));
                int from = (first << 22) + (index << 12);
                found("entry " + index, x, from, 0x9000);
                found("entry " + index, x, from + 0xfff, 0x9fff);
                refusedByPage("before entry " + index, x, from - 1);
                refusedByPage("behind entry " + index, x, from + 0x1000);
            }
        }
    }

    private static void noTable() {
        tablesBehindTheMemory();
        tablesOfAllBits();
        tablesInTheLastPage();
    }

    private static void tablesBehindTheMemory() {
        int[] pages = {64, 65, 128, 0x7ffff, 0x80000, 0xfffff};
        for (int page : pages) {
            for (int mode = 0; mode < 2; mode++) {
                PagedHart x = new PagedHart();
                x.setRegister(Asm.MODE, mode);
                x.setControl(Asm.TABLES, 0x80000000 | page);
                int[] addresses = {0, 0x3fffff, 0x400000, -1};
                for (int address : addresses) {
                    for (int how : HOWS) {
                        Check.same("first table in page " + page, x.translate(address, how), ACCESS[how]);
                    }
                }
                Asm.trapDue("fetch by a table in page " + page, x, 1, 0, 0);
                PagedHart y = hart(mode);
                y.poke(FIRST, page << 10 | POINTER);
                refusedByAccess("second table in page " + page, y, 0);
                refusedByAccess("second table in page " + page, y, 0x3fffff);
            }
        }
    }

    /** Translation is on, and its table behind the memory. */
    private static void tablesOfAllBits() {
        PagedHart x = new PagedHart();
        x.setControl(Asm.TABLES, -1);
        for (int how : HOWS) {
            Check.same("TABLES of all bits", x.translate(0x5000, how), ACCESS[how]);
        }
        Asm.trapDue("fetch by TABLES of all bits", x, 1, 0, 0);
    }

    /** It is the memory's, with its last word. */
    private static void tablesInTheLastPage() {
        PagedHart x = hart(1);
        x.poke(FIRST, 63 << 10 | POINTER);
        x.poke(0x3fffc, small(5));
        found("second table in the last page", x, 0x3ff008, 0x5008);
        x.poke(0x3fffc, ALL);
        x.setControl(Asm.TABLES, 0x8000003f);
        Check.same("first table in the last page", x.translate(0xffc05008, LOAD), 0x5008);
    }

    private static void bitZero() {
        refusedByPage("small page without bit 0", withSmallPage(1, small(5) & ~1), 0x10);
        refusedByPage("large page without bit 0", withLargePage(1, ALL & ~1), 0x5010);
        refusedByPage("an entry of 0 on the second level", withSmallPage(1, 0), 0x10);
        refusedByPage("an entry of 0 on the first level", withLargePage(1, 0), 0x10);
        refusedByPage("an entry of all but bit 0", withLargePage(1, -2), 0x10);
        found("small page with bit 0", withSmallPage(1, small(5)), 0x10, 0x5010);
        found("large page with bit 0", withLargePage(1, ALL), 0x5010, 0x5010);
    }

    private static void writeWithoutRead() {
        // Bits 0, 2, 3, 6, 7: it could be fetched and stored, were bit 2 without bit 1 not refused.
        refusedByPage("small page, bits 2 and 3", withSmallPage(1, 5 << 10 | 0xcd), 0x10);
        refusedByPage("large page, bits 2 and 3", withLargePage(1, 0xcd), 0x5010);
        refusedByPage("small page, bit 2 alone", withSmallPage(1, 5 << 10 | 0xc5), 0x10);
        refusedByPage("large page, bit 2 alone", withLargePage(1, 0xc5), 0x5010);
    }

    private static void oneOfTwo() {
        PagedHart x = withSmallPage(1, SECOND >> 2 | 0xc0 | POINTER);
        refusedByPage("a pointer on the second level", x, 0x10);
        dueForAll("bit 1 alone", withSmallPage(1, 5 << 10 | 0xc3), 0x10, PAGE[FETCH], 0x5010, PAGE[STORE]);
        dueForAll("bit 3 alone", withSmallPage(1, 5 << 10 | 0xc9), 0x10, 0x5010, PAGE[LOAD], PAGE[STORE]);
        dueForAll("bits 1 and 3", withSmallPage(1, 5 << 10 | 0xcb), 0x10, 0x5010, 0x5010, PAGE[STORE]);
        dueForAll("bit 1 alone, large", withLargePage(1, 0xc3), 0x5010, PAGE[FETCH], 0x5010, PAGE[STORE]);
        dueForAll("bit 3 alone, large", withLargePage(1, 0xc9), 0x5010, 0x5010, PAGE[LOAD], PAGE[STORE]);
    }

    private static void largePagesAreAligned() {
        for (int bit = 10; bit < 20; bit++) {
            refusedByPage("large page with bit " + bit, withLargePage(1, ALL | 1 << bit), 0x5010);
        }
        refusedByPage("large page with bits 10 .. 19", withLargePage(1, ALL | 0xffc00), 0x5010);
        // On the second level these bits are the page's.
        for (int bit = 10; bit < 16; bit++) {
            int page = 1 << bit - 10;
            if (page > 4) {
                found("small page with bit " + bit, withSmallPage(1, small(page)), 0x10, 4096 * page + 0x10);
            }
        }
        found("small page 5, with bits 10 and 12", withSmallPage(1, small(5)), 0x10, 0x5010);
    }

    private static void bitSix() {
        refusedByPage("small page without bit 6", withSmallPage(1, small(5) & ~0x40), 0x10);
        refusedByPage("large page without bit 6", withLargePage(1, ALL & ~0x40), 0x5010);
        refusedByPage("user's page without bit 6", withSmallPage(0, (small(5) | USERS) & ~0x40), 0x10);
        // It does not appear by a use.
        PagedHart x = withSmallPage(1, small(5) & ~0x40);
        refusedByPage("first", x, 0x10);
        Check.same("the entry", x.peek(SECOND), small(5) & ~0x40);
        refusedByPage("again", x, 0x10);
        // A pointer need not have it.
        PagedHart y = hart(1);
        y.poke(FIRST, SECOND >> 2 | POINTER);
        y.poke(SECOND, small(5));
        found("a pointer without bit 6", y, 0x10, 0x5010);
    }

    private static void bitsOfUses() {
        for (int large = 0; large < 2; large++) {
            for (int bits = 0; bits < 16; bits++) {
                // Bits 1, 2, 3 and 7 in all ways.
                int entry = 0x41 | (bits & 7) << 1 | (bits >> 3) << 7;
                boolean refused = (bits & 7) == 0 || (bits & 3) == 2;
                int place = 0x5010;
                int fetch = !refused && (bits & 4) != 0 ? place : PAGE[FETCH];
                int load = !refused && (bits & 1) != 0 ? place : PAGE[LOAD];
                int store = !refused && (bits & 2) != 0 && (bits & 8) != 0 ? place : PAGE[STORE];
                if (large == 1 && (bits & 7) == 0) {
                    continue;
                }
                PagedHart x = large == 1 ? withLargePage(1, entry) : withSmallPage(1, 5 << 10 | entry);
                dueForAll("bits " + Integer.toHexString(entry), x, large == 1 ? 0x5010 : 0x10, fetch, load, store);
            }
        }
        PagedHart y = withSmallPage(1, small(5) & ~0x80);
        due("a store without bit 7", y, 0x10, STORE, PAGE[STORE]);
        Check.same("the entry", y.peek(SECOND), small(5) & ~0x80);
        due("a store without bit 7, again", y, 0x10, STORE, PAGE[STORE]);
    }

    private static void usersMode() {
        for (int sum = 0; sum < 2; sum++) {
            PagedHart a = withSmallPage(0, small(5));
            a.setControl(Asm.STATUS, sum << 18);
            refusedByPage("user in a small page without bit 4, SUM " + sum, a, 0x10);
            PagedHart b = withLargePage(0, ALL);
            b.setControl(Asm.STATUS, sum << 18);
            refusedByPage("user in a large page without bit 4, SUM " + sum, b, 0x5010);
            PagedHart c = withSmallPage(0, small(5) | USERS);
            c.setControl(Asm.STATUS, sum << 18);
            found("user in a small page with bit 4, SUM " + sum, c, 0x10, 0x5010);
            PagedHart d = withLargePage(0, ALL | USERS);
            d.setControl(Asm.STATUS, sum << 18);
            found("user in a large page with bit 4, SUM " + sum, d, 0x5010, 0x5010);
        }
    }

    private static void supervisorsMode() {
        PagedHart a = withSmallPage(1, small(5) | USERS);
        refusedByPage("supervisor in a user's page, SUM 0", a, 0x10);
        a.setControl(Asm.STATUS, 0x40000);
        dueForAll("supervisor in a user's page, SUM", a, 0x10, PAGE[FETCH], 0x5010, 0x5010);
        a.setControl(Asm.STATUS, 0x100);
        refusedByPage("supervisor in a user's page, PRIOR alone", a, 0x10);
        PagedHart b = withLargePage(1, ALL | USERS);
        refusedByPage("supervisor in a user's large page, SUM 0", b, 0x5010);
        b.setControl(Asm.STATUS, 0x40000);
        dueForAll("supervisor in a user's large page, SUM", b, 0x5010, PAGE[FETCH], 0x5010, 0x5010);
        PagedHart c = withSmallPage(1, small(5));
        found("supervisor in a page without bit 4, SUM 0", c, 0x10, 0x5010);
        c.setControl(Asm.STATUS, 0x40000);
        found("supervisor in a page without bit 4, SUM", c, 0x10, 0x5010);
    }

    private static void freeBits() {
        int[] free = {0x20, 0x100, 0x200, 0x320};
        for (int bits : free) {
            found("small page with bits " + bits, withSmallPage(1, small(5) | bits), 0x10, 0x5010);
            found("large page with bits " + bits, withLargePage(1, ALL | bits), 0x5010, 0x5010);
            found("user's page with bits " + bits, withSmallPage(0, small(5) | USERS | bits), 0x10, 0x5010);
        }
    }

    private static void smallPlaces() {
        int[] pages = {5, 32, 63};
        int[] withins = {0, 1, 2, 3, 0x7ff, 0x800, 0xffc, 0xfff};
        for (int page : pages) {
            PagedHart x = withSmallPage(1, small(page));
            for (int within : withins) {
                found("page " + page, x, within, 4096 * page + within);
            }
        }
        for (int upper = 1; upper < 4; upper++) {
            found("a small page wrapped by " + upper, withSmallPage(1, upper << 30 | small(5)), 0xabc, 0x5abc);
        }
    }

    private static void largePlaces() {
        int[] places = {0x5000, 0x5fff, 0x6000, 0x10000, 0x20000, 0x3f000, 0x3fffc, 0x3ffff};
        PagedHart x = withLargePage(1, ALL);
        for (int place : places) {
            found("a large page", x, place, place);
        }
        for (int upper = 1; upper < 4; upper++) {
            found("a large page wrapped by " + upper, withLargePage(1, upper << 30 | ALL), 0x5abc, 0x5abc);
        }
    }

    private static void behindTheMemory() {
        PagedHart x = withLargePage(1, ALL);
        found("the last byte", x, 0x3ffff, 0x3ffff);
        refusedByAccess("the byte behind it", x, 0x40000);
        refusedByAccess("the page's last byte", x, 0x3fffff);
        for (int bit = 20; bit < 30; bit++) {
            refusedByAccess("large page with bit " + bit, withLargePage(1, ALL | 1 << bit), 0x5010);
        }
        int[] pages = {64, 65, 128, 0x3ff, 0x400, 0x7ffff, 0x80000, 0xfffff};
        for (int page : pages) {
            refusedByAccess("small page " + page, withSmallPage(1, small(page)), 0);
            refusedByAccess("small page " + page, withSmallPage(1, small(page)), 0xfff);
        }
        found("small page 63", withSmallPage(1, small(63)), 0xfff, 0x3ffff);
    }

    private static void pageBeforeAccess() {
        refusedByPage("small page 64 without bit 6", withSmallPage(1, small(64) & ~0x40), 0);
        refusedByPage("user in the supervisor's small page 64", withSmallPage(0, small(64)), 0);
        refusedByPage("large page with bits 10 and 20", withLargePage(1, ALL | 1 << 10 | 1 << 20), 0);
        // A second table behind the memory: there is no entry to be asked.
        refusedByAccess("user by a table behind the memory", withLargePage(0, 64 << 10 | POINTER), 0);
    }

    private static void translateAlone() {
        PagedHart x = withSmallPage(0, small(5) | USERS);
        x.setControl(Asm.WORK, 5);
        x.setControl(Asm.TURN, 0);
        State before = State.of(x);
        for (int how : HOWS) {
            // Of a byte: no address is misaligned, and no count is asked.
            for (int within = 0; within < 4; within++) {
                Check.same("translate", x.translate(within, how), 0x5000 + within);
            }
            Check.same("translate of no page", x.translate(0x1000, how), PAGE[how]);
        }
        before.due("translate", x);
        Check.same("the entry", x.peek(SECOND), small(5) | USERS);
        x.setRegister(Asm.MODE, 1);
        for (int how : HOWS) {
            Check.same("translate in the other mode", x.translate(0, how), PAGE[how]);
        }
        Check.same("NONE", PagedHart.NONE, -1);
        Check.same("NONE less an access trap's cause", x.translate(0x40000000, FETCH), PagedHart.NONE - 0xc);
    }
}
