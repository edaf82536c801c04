import java.util.NoSuchElementException;

/**
 * A processor with words of 32 bits, a user's and a supervisor's mode, memory in pages, traps,
 * and two counts of a user's instructions that trap when they come to 0.
 *
 * <p>No translation and no instruction is kept from one step to the next, so none can be seen.
 */
public final class PagedHart {
    /** What translate's refusals count down from: NONE less the cause of the trap. */
    public static final int NONE = -1;

    private static final int MEMORY_WORDS = 65536;
    private static final int MEMORY_BYTES = 4 * MEMORY_WORDS;
    private static final int MOST_STEPS = 20000;

    private static final int REGISTERS = 32;
    private static final int PC_NUMBER = 32;
    private static final int MODE_NUMBER = 33;

    private static final int USER = 0;
    private static final int SUPERVISOR = 1;

    private static final int FETCH = 0;
    private static final int LOAD = 1;
    private static final int STORE = 2;

    // The controls' slots: where each stands in the three rows CONTROL_NUMBERS, CONTROL_BITS, controls.
    private static final int STATUS = 0;
    private static final int VECTOR = 1;
    private static final int RETURN = 3;
    private static final int CAUSE = 4;
    private static final int VALUE = 5;
    private static final int TABLES = 6;
    private static final int TURN = 7;
    private static final int WORK = 8;
    private static final int CONTROLS = 9;

    private static final int PRIOR_PLACE = 8;
    private static final int PRIOR = 1 << PRIOR_PLACE;
    private static final int SUM = 1 << 18;

    private static final int[] CONTROL_NUMBERS = {
        0x100, 0x105, 0x140, 0x141, 0x142, 0x143, 0x180, 0x5c0, 0x5c1
    };
    /** The bits of each control that need not be 0. */
    private static final int[] CONTROL_BITS = {PRIOR | SUM, ~3, -1, ~3, -1, -1, -1, -1, -1};

    private static final int ENTRY_VALID = 1;
    private static final int ENTRY_READ = 1 << 1;
    private static final int ENTRY_WRITE = 1 << 2;
    private static final int ENTRY_EXECUTE = 1 << 3;
    private static final int ENTRY_USER = 1 << 4;
    private static final int ENTRY_ACCESSED = 1 << 6;
    private static final int ENTRY_DIRTY = 1 << 7;
    private static final int ENTRY_KIND = ENTRY_VALID | ENTRY_READ | ENTRY_WRITE | ENTRY_EXECUTE;
    private static final int IN_SMALL_PAGE = 0xfff;
    private static final int IN_LARGE_PAGE = 0x3fffff;

    private static final int CAUSE_JUMP_MISALIGNED = 0;
    private static final int CAUSE_ILLEGAL = 2;
    private static final int CAUSE_BREAK = 3;
    private static final int CAUSE_CALL = 8;
    private static final int CAUSE_WORK = 0x18;
    private static final int CAUSE_TURN = 0x80000005;

    private static final int WORD_CALL = 0x73;
    private static final int WORD_BREAK = 0x100073;
    private static final int WORD_RETURN = 0x10200073;
    private static final int WORD_WAIT = 0x10500073;
    private static final int TABLES_CHANGED = 9 << 25 | 0x73;
    /** OP, D, F and G: A and B of a word that tells that tables were changed are free. */
    private static final int TABLES_CHANGED_BITS = 0xfe007fff;

    private static final long LOW_WORD = 0xffffffffL;

    private final int[] memory;
    private final int[] registers;
    private final int[] controls;
    private int pc;
    private int mode;
    private boolean endedByCall;

    /** All words and registers 0, PC 0, the supervisor's mode. */
    public PagedHart() {
        memory = new int[MEMORY_WORDS];
        registers = new int[REGISTERS];
        controls = new int[CONTROLS];
        controls[TURN] = -1;
        controls[WORK] = -1;
        pc = 0;
        mode = SUPERVISOR;
        endedByCall = false;
    }

    /** Makes at most so many steps, fewer if a call in the supervisor's mode ends them: how many. */
    public int run(int most) throws IllegalArgumentException {
        if (most < 0 || most > MOST_STEPS) {
            throw new IllegalArgumentException("steps are 0 to 20000");
        }
        if (most == 0) {
            return 0;
        }
        endedByCall = false;
        int made = 0;
        while (made < most && !endedByCall) {
            step();
            made++;
        }
        return made;
    }

    /** Whether the last run (not of 0 steps) ended behind a call in the supervisor's mode. */
    public boolean called() {
        return endedByCall;
    }

    /** A word of the memory, without translation. */
    public int peek(int address) throws IndexOutOfBoundsException {
        if (!isWord(address)) {
            throw new IndexOutOfBoundsException("no word of the memory");
        }
        return memory[address >>> 2];
    }

    /** Writes a word of the memory, without translation. */
    public void poke(int address, int v) throws IndexOutOfBoundsException {
        if (!isWord(address)) {
            throw new IndexOutOfBoundsException("no word of the memory");
        }
        memory[address >>> 2] = v;
    }

    /** Writes four words of the memory one behind the other, or none of them. */
    public void pokeFour(int address, int a, int b, int c, int d) throws IndexOutOfBoundsException {
        // The first and the last suffice: what lies between two words of the memory is of it, too.
        if (!isWord(address) || !isWord(address + 12)) {
            throw new IndexOutOfBoundsException("not four words of the memory");
        }
        int first = address >>> 2;
        memory[first] = a;
        memory[first + 1] = b;
        memory[first + 2] = c;
        memory[first + 3] = d;
    }

    /** A register; the PC for 32; the mode for 33. */
    public int register(int i) throws IndexOutOfBoundsException {
        if (i < 0 || i > MODE_NUMBER) {
            throw new IndexOutOfBoundsException("registers are 0 to 33");
        }
        if (i == PC_NUMBER) {
            return pc;
        }
        return i == MODE_NUMBER ? mode : registers[i];
    }

    /** Writes a register; the PC for 32; the mode for 33 (its lowest bit). */
    public void setRegister(int i, int v) throws IndexOutOfBoundsException {
        if (i < 0 || i > MODE_NUMBER) {
            throw new IndexOutOfBoundsException("registers are 0 to 33");
        }
        if (i == PC_NUMBER) {
            pc = v;
        } else if (i == MODE_NUMBER) {
            mode = v & 1;
        } else if (i != 0) {
            registers[i] = v;
        }
    }

    /** A control, by its number. */
    public int control(int n) throws NoSuchElementException {
        int slot = slotOf(n);
        if (slot < 0) {
            throw new NoSuchElementException("no control of that number");
        }
        return controls[slot];
    }

    /** Writes a control, by its number; bits that are always 0 stay so. */
    public void setControl(int n, int v) throws NoSuchElementException {
        int slot = slotOf(n);
        if (slot < 0) {
            throw new NoSuchElementException("no control of that number");
        }
        controls[slot] = v & CONTROL_BITS[slot];
    }

    /** The address of the memory to fetch (0), load (1) or store (2) a byte, or NONE less a cause. */
    public int translate(int address, int how) throws IllegalArgumentException {
        if (how < FETCH || how > STORE) {
            throw new IllegalArgumentException("how is 0, 1 or 2");
        }
        return locate(address, how);
    }

    // The memory and the way to it.

    private static boolean isInMemory(int address) {
        return address >= 0 && address < MEMORY_BYTES;
    }

    private static boolean isWord(int address) {
        return isInMemory(address) && (address & 3) == 0;
    }

    /** As locate, for a thing of 1, 2 or 4 bytes that must lie at a multiple of its size. */
    private int locateAligned(int address, int how, int size) {
        if ((address & (size - 1)) != 0) {
            return NONE - misalignedCause(how);
        }
        return locate(address, how);
    }

    /** An address of the memory's bytes, or NONE less the cause of a trap: those are below 0. */
    private int locate(int address, int how) {
        int place = address;
        int tables = controls[TABLES];
        if (tables < 0) {
            // Times 4096 the bits above 19 wrap away, so that those above 21 need no mask.
            int entryAt = (tables << 12) + ((address >>> 22) << 2);
            if (!isInMemory(entryAt)) {
                return NONE - accessCause(how);
            }
            int entry = memory[entryAt >>> 2];
            int within = IN_LARGE_PAGE;
            if ((entry & ENTRY_KIND) == ENTRY_VALID) {
                entryAt = frameOf(entry) + ((address >>> 12 & 0x3ff) << 2);
                if (!isInMemory(entryAt)) {
                    return NONE - accessCause(how);
                }
                entry = memory[entryAt >>> 2];
                within = IN_SMALL_PAGE;
            }
            // Of a small page no bit of the frame lies within; of a large one bits 10 .. 19 of the entry do.
            if ((frameOf(entry) & within) != 0 || !permits(entry, how)) {
                return NONE - pageCause(how);
            }
            place = frameOf(entry) + (address & within);
        }
        return isInMemory(place) ? place : NONE - accessCause(how);
    }

    private static int frameOf(int entry) {
        return (entry >>> 10) << 12;
    }

    private boolean permits(int entry, int how) {
        int needed = ENTRY_VALID | ENTRY_ACCESSED;
        if (how == FETCH) {
            needed |= ENTRY_EXECUTE;
        } else if (how == LOAD) {
            needed |= ENTRY_READ;
        } else {
            needed |= ENTRY_WRITE | ENTRY_DIRTY;
        }
        // That it has one of the bits 1 and 3 follows: each use needs one of them, or bit 2, and so 1.
        boolean writeAlone = (entry & (ENTRY_READ | ENTRY_WRITE)) == ENTRY_WRITE;
        if (writeAlone || (entry & needed) != needed) {
            return false;
        }
        boolean usersPage = (entry & ENTRY_USER) != 0;
        if (mode == USER) {
            return usersPage;
        }
        return !usersPage || how != FETCH && (controls[STATUS] & SUM) != 0;
    }

    private static int misalignedCause(int how) {
        if (how == FETCH) {
            return 0;
        }
        return how == LOAD ? 4 : 6;
    }

    private static int accessCause(int how) {
        if (how == FETCH) {
            return 1;
        }
        return how == LOAD ? 5 : 7;
    }

    private static int pageCause(int how) {
        if (how == FETCH) {
            return 0xc;
        }
        return how == LOAD ? 0xd : 0xf;
    }

    // Controls, steps and traps.

    private static int slotOf(int number) {
        for (int slot = 0; slot < CONTROLS; slot++) {
            if (CONTROL_NUMBERS[slot] == number) {
                return slot;
            }
        }
        return NONE;
    }

    private void step() {
        // Asked before the instruction is done, for it may change the mode.
        boolean users = mode == USER;
        if (users && controls[WORK] == 0) {
            trap(CAUSE_WORK, 0);
            return;
        }
        if (users && controls[TURN] == 0) {
            trap(CAUSE_TURN, 0);
            return;
        }
        int at = locateAligned(pc, FETCH, 4);
        if (at < 0) {
            trap(NONE - at, pc);
            return;
        }
        if (perform(memory[at >>> 2]) && users) {
            countDown(WORK);
            countDown(TURN);
        }
    }

    private void countDown(int slot) {
        if (controls[slot] != -1) {
            controls[slot]--;
        }
    }

    /** Answers false, as all that do an instruction answer whether it was done without a trap. */
    private boolean trap(int cause, int value) {
        controls[RETURN] = pc & CONTROL_BITS[RETURN];
        controls[CAUSE] = cause;
        controls[VALUE] = value;
        controls[STATUS] = controls[STATUS] & SUM | mode << PRIOR_PLACE;
        mode = SUPERVISOR;
        pc = controls[VECTOR];
        return false;
    }

    private boolean refuse(int word) {
        return trap(CAUSE_ILLEGAL, word);
    }

    private boolean goOn() {
        pc += 4;
        return true;
    }

    private boolean goOnWith(int word, int d) {
        writeD(word, d);
        return goOn();
    }

    private void writeD(int word, int d) {
        int number = word >>> 7 & 31;
        if (number != 0) {
            registers[number] = d;
        }
    }

    // The parts of an instruction.

    private static int fOf(int word) {
        return word >>> 12 & 7;
    }

    private static int gOf(int word) {
        return word >>> 25;
    }

    private int aOf(int word) {
        return registers[word >>> 15 & 31];
    }

    private int bOf(int word) {
        return registers[word >>> 20 & 31];
    }

    private static int iOf(int word) {
        return word >> 20;
    }

    private static int sOf(int word) {
        return word >> 25 << 5 | word >>> 7 & 0x1f;
    }

    private static int uOf(int word) {
        return word & 0xfffff000;
    }

    /** C times 2. */
    private static int branchDistance(int word) {
        return word >> 31 << 12
            | (word >>> 7 & 1) << 11
            | (word >>> 25 & 0x3f) << 5
            | (word >>> 8 & 0xf) << 1;
    }

    /** J times 2. */
    private static int jumpDistance(int word) {
        return word >> 31 << 20
            | (word >>> 12 & 0xff) << 12
            | (word >>> 20 & 1) << 11
            | (word >>> 21 & 0x3ff) << 1;
    }

    // The instructions. Each answers whether it was done without a trap.

    private boolean perform(int word) {
        switch (word & 0x7f) {
            case 0x37:
                return goOnWith(word, uOf(word));
            case 0x17:
                return goOnWith(word, pc + uOf(word));
            case 0x6f:
                return jump(word, pc + jumpDistance(word));
            case 0x67:
                return fOf(word) == 0 ? jump(word, aOf(word) + iOf(word) & ~1) : refuse(word);
            case 0x63:
                return branch(word);
            case 0x03:
                return load(word);
            case 0x23:
                return store(word);
            case 0x13:
                return calculateWithNumber(word);
            case 0x33:
                return calculateWithRegister(word);
            case 0x0f:
                return fOf(word) == 0 ? goOn() : refuse(word);
            case 0x73:
                return performSystem(word);
            default:
                return refuse(word);
        }
    }

    private boolean jump(int word, int target) {
        if ((target & 3) != 0) {
            return trap(CAUSE_JUMP_MISALIGNED, target);
        }
        writeD(word, pc + 4);
        pc = target;
        return true;
    }

    private boolean branch(int word) {
        int f = fOf(word);
        if (f == 2 || f == 3) {
            return refuse(word);
        }
        if (!isTaken(f, aOf(word), bOf(word))) {
            return goOn();
        }
        int target = pc + branchDistance(word);
        if ((target & 3) != 0) {
            return trap(CAUSE_JUMP_MISALIGNED, target);
        }
        pc = target;
        return true;
    }

    private static boolean isTaken(int f, int a, int b) {
        boolean holds;
        if (f < 2) {
            holds = a == b;
        } else {
            holds = f < 6 ? a < b : isBelow(a, b);
        }
        // An odd F asks for the opposite of the even one before it.
        return holds == ((f & 1) == 0);
    }

    /** a < b without a sign. */
    private static boolean isBelow(int a, int b) {
        return (a & LOW_WORD) < (b & LOW_WORD);
    }

    private boolean load(int word) {
        int f = fOf(word);
        if (f == 3 || f > 5) {
            return refuse(word);
        }
        int address = aOf(word) + iOf(word);
        int at = locateAligned(address, LOAD, 1 << (f & 3));
        if (at < 0) {
            return trap(NONE - at, address);
        }
        return goOnWith(word, extend(f, memory[at >>> 2] >>> ((at & 3) << 3)));
    }

    private static int extend(int f, int bits) {
        switch (f) {
            case 0:
                return bits << 24 >> 24;
            case 1:
                return bits << 16 >> 16;
            case 4:
                return bits & 0xff;
            case 5:
                return bits & 0xffff;
            default:
                return bits;
        }
    }

    private boolean store(int word) {
        int f = fOf(word);
        if (f > 2) {
            return refuse(word);
        }
        int address = aOf(word) + sOf(word);
        int at = locateAligned(address, STORE, 1 << f);
        if (at < 0) {
            return trap(NONE - at, address);
        }
        int place = (at & 3) << 3;
        int mask = maskOf(f) << place;
        memory[at >>> 2] = memory[at >>> 2] & ~mask | bOf(word) << place & mask;
        return goOn();
    }

    private static int maskOf(int f) {
        if (f == 0) {
            return 0xff;
        }
        return f == 1 ? 0xffff : -1;
    }

    private boolean calculateWithNumber(int word) {
        int f = fOf(word);
        int g = gOf(word);
        // I's lowest five bits are B, so that calculate shifts by B here.
        if (f != 1 && f != 5 || g == 0) {
            return goOnWith(word, calculate(f, aOf(word), iOf(word)));
        }
        if (f == 5 && g == 0x20) {
            return goOnWith(word, aOf(word) >> (word >>> 20 & 31));
        }
        return refuse(word);
    }

    private boolean calculateWithRegister(int word) {
        int f = fOf(word);
        int g = gOf(word);
        int a = aOf(word);
        int y = bOf(word);
        if (g == 0) {
            return goOnWith(word, calculate(f, a, y));
        }
        if (g == 1) {
            return goOnWith(word, f < 4 ? multiply(f, a, y) : divide(f, a, y));
        }
        if (g == 0x20 && f == 0) {
            return goOnWith(word, a - y);
        }
        if (g == 0x20 && f == 5) {
            return goOnWith(word, a >> (y & 31));
        }
        return refuse(word);
    }

    private static int calculate(int f, int a, int y) {
        switch (f) {
            case 0:
                return a + y;
            case 1:
                return a << (y & 31);
            case 2:
                return a < y ? 1 : 0;
            case 3:
                return isBelow(a, y) ? 1 : 0;
            case 4:
                return a ^ y;
            case 5:
                return a >>> (y & 31);
            case 6:
                return a | y;
            default:
                return a & y;
        }
    }

    private static int multiply(int f, int a, int y) {
        switch (f) {
            case 0:
                return a * y;
            case 1:
                return (int) ((long) a * (long) y >> 32);
            case 2:
                return (int) ((long) a * (y & LOW_WORD) >> 32);
            default:
                return (int) ((a & LOW_WORD) * (y & LOW_WORD) >>> 32);
        }
    }

    private static int divide(int f, int a, int y) {
        boolean wantsRest = f > 5;
        if (y == 0) {
            return wantsRest ? a : -1;
        }
        // As longs, where -2 to the 31 by -1 has an answer that wraps to the one that is due.
        boolean signed = (f & 1) == 0;
        long dividend = signed ? a : a & LOW_WORD;
        long divisor = signed ? y : y & LOW_WORD;
        return (int) (wantsRest ? dividend % divisor : dividend / divisor);
    }

    private boolean performSystem(int word) {
        if (word == WORD_CALL) {
            return call();
        }
        if (word == WORD_BREAK) {
            return trap(CAUSE_BREAK, pc);
        }
        if (mode == USER) {
            return refuse(word);
        }
        if (fOf(word) != 0) {
            return changeControl(word);
        }
        if (word == WORD_RETURN) {
            return returnFromTrap();
        }
        // No translation is kept, so nothing is to be done when tables were changed.
        if (word == WORD_WAIT || (word & TABLES_CHANGED_BITS) == TABLES_CHANGED) {
            return goOn();
        }
        return refuse(word);
    }

    private boolean call() {
        if (mode == USER) {
            return trap(CAUSE_CALL, 0);
        }
        endedByCall = true;
        return goOn();
    }

    private boolean returnFromTrap() {
        pc = controls[RETURN];
        mode = controls[STATUS] >>> PRIOR_PLACE & 1;
        controls[STATUS] &= ~PRIOR;
        return true;
    }

    private boolean changeControl(int word) {
        int f = fOf(word);
        int slot = slotOf(word >>> 20);
        if (f == 4 || slot < 0) {
            return refuse(word);
        }
        int was = controls[slot];
        int x = f > 4 ? word >>> 15 & 31 : aOf(word);
        controls[slot] = changed(f & 3, was, x) & CONTROL_BITS[slot];
        return goOnWith(word, was);
    }

    /** With A 0, x is 0 in both forms, so that setting and clearing bits leave a control as it was. */
    private static int changed(int kind, int was, int x) {
        if (kind == 1) {
            return x;
        }
        return kind == 2 ? was | x : was & ~x;
    }
}
