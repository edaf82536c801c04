/** "translations and instructions that are kept can't be seen by any program, whatever it changes." */
public final class EdgeKeptTest {
    private static final int ALL = 0xcf;
    private static final int USERS = 0x10;

    public static void main(String[] args) {
        Check.sentence("the next instruction is written over", EdgeKeptTest::nextInstruction);
        Check.sentence("an instruction that was done is written over", EdgeKeptTest::instructionDone);
        Check.sentence("a part of an instruction is written over", EdgeKeptTest::partOfAnInstruction);
        Check.sentence("an instruction is written over by another address", EdgeKeptTest::byAnotherAddress);
        Check.sentence("an instruction is poked between runs", EdgeKeptTest::pokedInstruction);
        Check.sentence("an entry is written over, and no word told that", EdgeKeptTest::storedEntry);
        Check.sentence("an entry of the first level is written over", EdgeKeptTest::storedFirstEntry);
        Check.sentence("the entry of the running page is written over", EdgeKeptTest::entryOfTheRunningPage);
        Check.sentence("an entry is poked between runs", EdgeKeptTest::pokedEntry);
        Check.sentence("TABLES are changed by an instruction", EdgeKeptTest::tablesByInstruction);
        Check.sentence("TABLES are changed between runs", EdgeKeptTest::tablesBetweenRuns);
        Check.sentence("SUM is changed by an instruction", EdgeKeptTest::sumByInstruction);
        Check.sentence("the mode is changed by a trap and a return", EdgeKeptTest::modeByTraps);
        Check.sentence("the mode is changed between runs", EdgeKeptTest::modeBetweenRuns);
        Check.sentence("a refusal is not kept either", EdgeKeptTest::refusalIsNotKept);
        Check.sentence("no use writes into an entry", EdgeKeptTest::entriesStay);
        Check.done();
    }

    private static void nextInstruction() {
        PagedHart x = Asm.of(Asm.s(2, 0, 1, 4), Asm.add(2, 0, 1), Asm.CALL);
        x.setRegister(1, Asm.add(2, 0, 2));
        Check.same("run", x.run(20), 3);
        Check.same("register 2", x.register(2), 2);
    }

    private static void instructionDone() {
        // Adds 1 at first; then 100, as the loop writes it over behind itself.
        PagedHart x = Asm.of(Asm.add(2, 2, 1), Asm.s(2, 0, 1, 0), Asm.add(3, 3, -1), Asm.branch(1, 3, 0, -12), Asm.CALL);
        x.setRegister(1, Asm.add(2, 2, 100));
        x.setRegister(3, 4);
        Check.same("run", x.run(2000), 17);
        Check.same("register 2", x.register(2), 301);
        // An instruction that writes itself over is done once.
        PagedHart y = Asm.of(Asm.s(2, 0, 1, 0), Asm.jump(0, -4));
        y.setRegister(1, Asm.CALL);
        Check.same("run", y.run(2000), 3);
        Check.same("called", y.called(), true);
        Check.same("PC", y.register(Asm.PC), 4);
    }

    private static void partOfAnInstruction() {
        // The byte with the upper bits of I, then the half.
        PagedHart x = Asm.of(Asm.add(2, 0, 1), Asm.s(0, 0, 1, 3), Asm.jump(0, -8));
        x.setRegister(1, 0x12);
        x.run(4);
        Check.same("a byte", x.register(2), 0x121);
        x.poke(4, Asm.s(1, 0, 1, 2));
        x.setRegister(1, 0x4560);
        x.setRegister(Asm.PC, 0);
        x.run(4);
        Check.same("a half", x.register(2), 0x456);
    }

    /** Pages 0 and 1 of the memory for the addresses 0 and 1000, and so on, up to 7000; tables at 2000 and 3000. */
    private static PagedHart paged(int bits, int... words) {
        PagedHart x = new PagedHart();
        x.poke(0x2000, 3 << 10 | 1);
        for (int page = 0; page < 8; page++) {
            x.poke(0x3000 + 4 * page, page << 10 | bits);
        }
        Asm.put(x, 0x100, words);
        x.setRegister(Asm.PC, 0x100);
        x.setControl(Asm.TABLES, 0x80000002);
        x.setControl(Asm.VECTOR, 0xf00);
        return x;
    }

    private static void byAnotherAddress() {
        PagedHart x = paged(ALL, Asm.add(2, 2, 1), Asm.s(2, 4, 1, 0), Asm.jump(0, -8));
        // The address 1000 is page 0's, too.
        x.poke(0x3004, ALL);
        x.setRegister(4, 0x1100);
        x.setRegister(1, Asm.add(2, 2, 100));
        x.run(4);
        Check.same("register 2", x.register(2), 101);
        // By its address in the memory, once translation has ended.
        x.setControl(Asm.TABLES, 0);
        x.poke(0x100, Asm.add(2, 2, 1000));
        x.setControl(Asm.TABLES, 0x80000002);
        x.setRegister(Asm.PC, 0x1100);
        x.run(1);
        Check.same("register 2", x.register(2), 1101);
    }

    private static void pokedInstruction() {
        PagedHart x = paged(ALL, Asm.add(2, 0, 1), Asm.jump(0, -4));
        x.run(20);
        x.poke(0x100, Asm.add(2, 0, 2));
        x.run(1);
        Check.same("poke", x.register(2), 2);
        x.pokeFour(0x100, Asm.add(2, 0, 3), Asm.add(2, 2, 4), Asm.CALL, 0);
        x.run(20);
        Check.same("pokeFour", x.register(2), 4 + 2);
        x.setRegister(Asm.PC, 0x100);
        x.run(20);
        Check.same("pokeFour, from its first", x.register(2), 7);
    }

    private static void storedEntry() {
        PagedHart x = paged(ALL, Asm.load(2, 2, 4, 0), Asm.s(2, 5, 1, 0), Asm.load(2, 3, 4, 0),
            Asm.s(2, 4, 6, 0), Asm.CALL);
        x.poke(0x5010, 55);
        x.poke(0x6010, 66);
        x.setRegister(4, 0x5010);
        x.setRegister(5, 0x3014);
        x.setRegister(1, 6 << 10 | ALL);
        x.setRegister(6, 77);
        Check.same("run", x.run(20), 5);
        Check.same("loaded before", x.register(2), 55);
        Check.same("loaded behind", x.register(3), 66);
        Check.same("stored: the old page", x.peek(0x5010), 55);
        Check.same("stored: the new page", x.peek(0x6010), 77);
        // Less is allowed from now on: a byte of the entry without bit 7, then without bit 0.
        Asm.put(x, 0x100, Asm.s(0, 5, 1, 0), Asm.s(2, 4, 6, 0));
        x.setRegister(1, 0x4f);
        x.setRegister(Asm.PC, 0x100);
        x.run(1);
        Asm.trapDue("a store behind bit 7", x, 0xf, 0x5010, 0x104);
    }

    private static void storedFirstEntry() {
        PagedHart x = paged(ALL, Asm.load(2, 2, 4, 0), Asm.s(2, 5, 1, 0), Asm.load(2, 3, 4, 0), Asm.CALL);
        x.poke(0x5010, 55);
        x.setRegister(4, 0x405010);
        x.poke(0x2004, 3 << 10 | 1);
        x.poke(0x4014, 7 << 10 | ALL);
        x.poke(0x7010, 88);
        x.setRegister(5, 0x2004);
        x.setRegister(1, 4 << 10 | 1);
        Check.same("run", x.run(20), 4);
        Check.same("loaded before", x.register(2), 55);
        Check.same("loaded behind", x.register(3), 88);
    }

    private static void entryOfTheRunningPage() {
        PagedHart x = paged(ALL, Asm.s(2, 5, 1, 0), Asm.add(2, 0, 1));
        x.setRegister(5, 0x3000);
        x.setRegister(1, 0);
        x.run(1);
        Asm.trapDue("no page", x, 0xc, 0x104, 0x104);
        PagedHart y = paged(ALL, Asm.s(2, 5, 1, 0), Asm.add(2, 0, 1));
        y.poke(0x5104, Asm.add(2, 0, 5));
        y.setRegister(5, 0x3000);
        y.setRegister(1, 5 << 10 | ALL);
        y.run(2);
        Check.same("another page", y.register(2), 5);
    }

    private static void pokedEntry() {
        PagedHart x = paged(ALL, Asm.load(2, 2, 4, 0), Asm.jump(0, -4));
        x.poke(0x5010, 55);
        x.poke(0x6010, 66);
        x.setRegister(4, 0x5010);
        x.run(6);
        Check.same("before", x.register(2), 55);
        x.poke(0x3014, 6 << 10 | ALL);
        Check.same("translate behind", x.translate(0x5010, 1), 0x6010);
        x.run(2);
        Check.same("behind", x.register(2), 66);
        x.pokeFour(0x3010, 0, 0, 0, 0);
        Check.same("translate behind pokeFour", x.translate(0x5010, 1), -14);
        Asm.trapDue("behind pokeFour", x, 0xd, 0x5010, 0x100);
    }

    private static void tablesByInstruction() {
        PagedHart x = paged(ALL, Asm.control(1, 0, 1, Asm.TABLES), Asm.add(2, 0, 1));
        // By the other tables all addresses' first 4 MB are page 5, 6, and so on.
        x.poke(0x7000, 4 << 10 | 1);
        x.poke(0x4000, 5 << 10 | ALL);
        x.poke(0x5104, Asm.add(2, 0, 5));
        x.setRegister(1, 0x80000007);
        x.run(2);
        Check.same("other tables", x.register(2), 5);
        PagedHart y = paged(ALL, Asm.control(1, 0, 0, Asm.TABLES));
        y.poke(0x3000, 5 << 10 | ALL);
        y.poke(0x5100, Asm.control(1, 0, 0, Asm.TABLES));
        y.poke(0x5104, Asm.add(2, 0, 5));
        y.poke(0x104, Asm.add(2, 0, 9));
        y.run(2);
        Check.same("no tables", y.register(2), 9);
        PagedHart z = Asm.of(Asm.control(1, 0, 1, Asm.TABLES), Asm.add(2, 0, 1));
        z.setRegister(1, 0x80000007);
        z.run(1);
        Asm.trapDue("empty tables", z, 0xc, 4, 4);
    }

    private static void tablesBetweenRuns() {
        PagedHart x = paged(ALL, Asm.load(2, 2, 4, 0), Asm.jump(0, -4));
        x.poke(0x3014, 6 << 10 | ALL);
        x.poke(0x5010, 55);
        x.poke(0x6010, 66);
        x.setRegister(4, 0x5010);
        x.run(2);
        Check.same("with tables", x.register(2), 66);
        x.setControl(Asm.TABLES, 2);
        x.run(2);
        Check.same("without tables", x.register(2), 55);
        x.setControl(Asm.TABLES, 0x80000002);
        x.run(2);
        Check.same("with tables again", x.register(2), 66);
    }

    private static void sumByInstruction() {
        PagedHart x = paged(ALL, Asm.load(2, 2, 4, 0), Asm.control(3, 0, 1, Asm.STATUS), Asm.load(2, 3, 4, 0));
        x.poke(0x3014, 5 << 10 | ALL | USERS);
        x.poke(0x5010, 55);
        x.setRegister(4, 0x5010);
        x.setRegister(1, 0x40000);
        x.setControl(Asm.STATUS, 0x40000);
        x.run(2);
        Check.same("with SUM", x.register(2), 55);
        Asm.trapDue("without SUM", x, 0xd, 0x5010, 0x108);
        x.poke(0x104, Asm.control(2, 0, 1, Asm.STATUS));
        x.setRegister(Asm.PC, 0x104);
        x.run(2);
        Check.same("with SUM again", x.register(3), 55);
    }

    private static void modeByTraps() {
        // The user at 1000, the supervisor at 100: each loads what is the other's alone.
        PagedHart x = paged(ALL, Asm.load(2, 2, 4, 0), Asm.TRAP_RETURN);
        x.poke(0x3004, 1 << 10 | ALL | USERS);
        Asm.put(x, 0x1000, Asm.load(2, 3, 5, 0), Asm.CALL, Asm.load(2, 3, 4, 0));
        x.poke(0x5010, 55);
        x.poke(0x1800, 44);
        x.setRegister(4, 0x5010);
        x.setRegister(5, 0x1800);
        x.setControl(Asm.VECTOR, 0x100);
        x.setRegister(Asm.PC, 0x1000);
        x.setRegister(Asm.MODE, 0);
        x.run(3);
        Check.same("the user's load", x.register(3), 44);
        Check.same("the supervisor's load", x.register(2), 55);
        x.setControl(Asm.RETURN, 0x1008);
        x.run(1);
        Asm.trapDue("the user's load of the supervisor's", x, 0xd, 0x5010, 0x1008);
    }

    private static void modeBetweenRuns() {
        PagedHart x = paged(ALL, Asm.NOTHING, Asm.NOTHING);
        Asm.doneDue("supervisor", x, 0x104);
        x.setRegister(Asm.MODE, 0);
        Asm.trapDue("user", x, 0xc, 0x104, 0x104);
        x.setRegister(Asm.PC, 0x104);
        Asm.doneDue("supervisor again", x, 0x108);
    }

    private static void refusalIsNotKept() {
        PagedHart x = paged(ALL, Asm.load(2, 2, 4, 0), Asm.jump(0, -4));
        x.poke(0x3014, 0);
        x.poke(0x5010, 55);
        x.setRegister(4, 0x5010);
        Asm.trapDue("no page", x, 0xd, 0x5010, 0x100);
        x.poke(0x3014, 5 << 10 | ALL);
        x.setRegister(Asm.PC, 0x100);
        Asm.doneDue("a page", x, 0x104);
        Check.same("loaded", x.register(2), 55);
        PagedHart y = paged(ALL, 0, Asm.NOTHING);
        Asm.trapDue("no instruction", y, 2, 0, 0x100);
        y.poke(0x100, Asm.add(2, 0, 7));
        y.setRegister(Asm.PC, 0x100);
        Asm.doneDue("an instruction", y, 0x104);
        Check.same("register 2", y.register(2), 7);
    }

    private static void entriesStay() {
        int[] bits = {ALL, ALL & ~0x40, ALL & ~0x80, ALL & ~0xc0, ALL | USERS};
        for (int one : bits) {
            PagedHart x = paged(ALL, Asm.load(2, 2, 4, 0), Asm.CALL, Asm.s(2, 4, 2, 0), Asm.CALL);
            x.poke(0x3014, 5 << 10 | one);
            x.setRegister(4, 0x5010);
            x.run(1);
            x.setRegister(Asm.PC, 0x108);
            x.run(1);
            x.setRegister(Asm.PC, 0x5000);
            x.run(1);
            for (int how = 0; how < 3; how++) {
                x.translate(0x5010, how);
            }
            Check.same("the entry", x.peek(0x3014), 5 << 10 | one);
            Check.same("the code's entry", x.peek(0x3000), ALL);
            Check.same("the pointer", x.peek(0x2000), 3 << 10 | 1);
        }
    }
}
