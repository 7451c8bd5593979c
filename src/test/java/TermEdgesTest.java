/** The sentences of the section "Terms" up to the operations, each at its edges. */
public final class TermEdgesTest {
    private static final int ROOT_META = Scene.ROOT_META;
    private static final int MIN = Integer.MIN_VALUE;
    private static final int MAX = Integer.MAX_VALUE;
    private static final int ALL = Machine.ALL;
    private static final int EXECUTE = 1;
    private static final int LOAD = 2;
    private static final int STORE = 4;
    private static final int LOADCAP = 8;
    private static final int STORECAP = 16;
    private static final int SEAL = 32;
    private static final int UNSEAL = 64;
    private static final int SYSTEM = 128;
    private static final long WORD = 1L << 32;

    private final Tally tally;

    private TermEdgesTest(Tally tally) {
        this.tally = tally;
    }

    public static void main(String[] args) {
        Tally tally = new Tally("TermEdgesTest");
        TermEdgesTest test = new TermEdgesTest(tally);
        test.oneStepAfterTheOther();
        test.numbersWrap();
        test.numbersAreReadUnsigned();
        test.permissions();
        test.permissionsOfTheProcessor();
        test.bitsOfTheMeta();
        test.nullCapability();
        test.sealed();
        test.entry();
        test.number();
        test.window();
        test.boundsOfAnySize();
        test.length();
        test.leastE();
        test.boundsModulo128();
        test.largeBounds();
        test.highestBitOfBounded();
        test.liesIn();
        test.move();
        test.moveSealed();
        test.wordsAndGranules();
        test.registerZero();
        test.atFirst();
        tally.end();
    }

    private Machine machine(String name) {
        return new Machine(tally, name);
    }

    private Effect step(String name, int... instructions) {
        return Effect.ofStep(tally, name, instructions);
    }

    private void oneStepAfterTheOther() {
        tally.sentence("It makes one step after the other: an instruction, or a trap.");
        CapabilityCore core = new CapabilityCore();
        core.poke(0, Machine.code(29, 0, 1, 0, 0));
        core.poke(1, Machine.code(1, 2, 2, 0, 1));
        core.poke(2, Machine.code(30, 0, 0, 0, 0));
        int[][] due = {{4, 0, 0}, {8, 1, 0}, {0, 1, 1}, {4, 1, 1}, {8, 2, 1}, {0, 2, 2}};
        for (int k = 0; k < due.length; k++) {
            tally.due("run(1)", core.run(1), 1);
            tally.due("steps() after " + (k + 1), core.steps(), k + 1);
            tally.due("PCC after " + (k + 1), core.register(8, 0), due[k][0]);
            tally.due("register 2 after " + (k + 1), core.register(2, 0), due[k][1]);
            tally.due("traps() after " + (k + 1), core.traps(), due[k][2]);
        }
    }

    private void computed(int operation, int x, int y, int i, int want) {
        Machine m = machine("operation " + operation + " of " + x + ", " + y + ", " + i);
        m.give(2, x);
        m.give(3, y);
        m.op(operation, 4, 2, 3, i);
        m.dueNumber(4, want);
    }

    private void numbersWrap() {
        tally.sentence("All numbers of 32 bits are ints and wrap");
        computed(1, MAX, 0, 0, MAX);
        computed(1, MAX, 0, 1, MIN);
        computed(1, MIN, 0, -1, MAX);
        computed(1, -1, 0, 1, 0);
        computed(1, MAX, 0, 131071, MIN + 131070);
        computed(1, MIN, 0, -131072, MAX - 131071);
        computed(2, MAX, 1, 0, MIN);
        computed(2, MAX, MAX, 0, -2);
        computed(2, MIN, MIN, 0, 0);
        computed(2, -1, 1, 0, 0);
        computed(3, MIN, 1, 0, MAX);
        computed(3, 0, MIN, 0, MIN);
        computed(3, MAX, -1, 0, MIN);
        computed(3, 0, 1, 0, -1);
        computed(7, MAX, 1, 0, -2);
        computed(10, 0, 0, 131071, MAX - 16383);
        computed(10, 0, 0, 65536, 1 << 30);
        Machine m = machine("addresses wrap");
        m.raw(2, -1, 0);
        m.give(3, 2);
        m.op(21, 4, 2, 3, 0);
        m.dueReg(4, 1, 0, 0);
        m.op(21, 4, 3, 2, 0);
        m.dueReg(4, 1, 0, 0);
        m.give(2, MAX);
        m.give(3, 1);
        m.op(21, 4, 2, 3, 0);
        m.dueNumber(4, MIN);
        wrapOfPcc();
    }

    private void wrapOfPcc() {
        CapabilityCore core = new CapabilityCore();
        core.poke(0, Machine.code(15, 0, 0, 0, -1));
        tally.due("run(1) to -4", core.run(1), 1);
        tally.due("PCC", core.register(8, 0), -4);
        tally.due("PCC's base", core.base(8), WORD);
        tally.due("PCC's top", core.top(8), WORD + 1024);
    }

    private void numbersAreReadUnsigned() {
        tally.sentence("where it is said, they are read UNSIGNED.");
        Machine m = machine("unsigned");
        m.raw(2, -1, 0);
        m.dueBounds(2, WORD, WORD);
        m.raw(2, MIN, 0);
        m.dueBounds(2, WORD / 2, WORD / 2);
        m.raw(2, MAX, 0);
        m.dueBounds(2, WORD / 2, WORD / 2);
        m.raw(2, MAX - 127, 0);
        m.dueBounds(2, WORD / 2 - 128, WORD / 2 - 128);
        bounded(m, -1, 1, Machine.meta(0, 0, 0, 127, 0), WORD - 1, WORD);
        bounded(m, MIN, 1, Machine.meta(0, 0, 0, 0, 1), WORD / 2, WORD / 2 + 1);
        bounded(m, 0, MIN, Machine.meta(0, 0, 25, 0, 64), 0, WORD / 2);
        // An address that no memory has is out of bounds, not before them.
        m.trap(5 + 16, 11, 3, 1, 0, -4);
        m.trap(5 + 16, 12, 3, 1, 0, -4);
        m.trap(5 + 16, 13, 3, 1, 0, -8);
        m.trap(5 + 16, 14, 3, 1, 0, -8);
        m.trap(4 + 16, 11, 3, 1, 0, -1);
        m.op(9, 3, 2, 0, 0);
        m.dueNumber(3, 0);
    }

    /** Bounds register 2, an untagged one without permissions, from an address for a length. */
    private void bounded(Machine m, int address, int length, int meta, long base, long top) {
        m.raw(2, address, 0);
        m.give(3, length);
        m.op(19, 4, 2, 3, 0);
        m.dueReg(4, address, meta, 0);
        m.dueBounds(4, base, top);
    }

    /** All sets of permissions that have just one bit or lack just one. */
    private static int[] permissionSets() {
        int[] sets = new int[18];
        for (int bit = 0; bit < 8; bit++) {
            sets[2 * bit] = 1 << bit;
            sets[2 * bit + 1] = ALL - (1 << bit);
        }
        sets[16] = 0;
        sets[17] = ALL;
        return sets;
    }

    private void permissions() {
        tally.sentence("the lowest eight bits are the PERMISSIONS (1 EXECUTE, 2 LOAD, 4 STORE, 8 LOADCAP,"
            + " 16 STORECAP, 32 SEAL, 64 UNSEAL, 128 SYSTEM)");
        for (int set : permissionSets()) {
            Machine m = machine("permissions " + set);
            m.cap(2, 400, 16, set);
            m.op(25, 3, 2, 0, 2);
            m.dueNumber(3, set);
            needs(m, set, LOAD, 11, 0);
            needs(m, set, STORE, 12, 0);
            needs(m, set, STORE, 14, 0);
            needs(m, set, STORE | STORECAP, 14, 1);
            m.op(14, 0, 1, 1, 400);
            needs(m, set, LOAD, 13, 0);
            m.due("tag of what is loaded", m.reg(3, 2), (set & (LOAD | LOADCAP)) == (LOAD | LOADCAP) ? 1 : 0);
        }
    }

    /** An operation on register 2, with d being 3. */
    private void needs(Machine m, int set, int needed, int operation, int t) {
        m.give(3, 0);
        if ((set & needed) == needed) {
            m.op(operation, 3, 2, t, 0);
        } else {
            m.trap(3 + 32, operation, 3, 2, t, 0);
        }
    }

    private void permissionsOfTheProcessor() {
        tally.sentence("EXECUTE, SEAL, UNSEAL, SYSTEM (each by itself, and all but it)");
        for (int set : permissionSets()) {
            Machine m = machine("permissions of the processor " + set);
            m.op(27, 4, 1, 0, 0);
            m.sealed(4, 5);
            m.cap(2, 0, 1024, set);
            m.give(3, 5);
            m.op(22, 2, 2, 3, 0);
            authorityNeeds(m, set, SEAL, 23, 1);
            authorityNeeds(m, set, UNSEAL, 24, 4);
            m.cap(2, 512, 64, set);
            if ((set & EXECUTE) == 0) {
                m.trap(3 + 32, 18, 3, 2, 0, 0);
            } else {
                m.flow(18, 3, 2, 0, 0);
                systemNeeded(m, set);
            }
        }
    }

    private void authorityNeeds(Machine m, int set, int needed, int operation, int s) {
        if ((set & needed) == needed) {
            m.op(operation, 3, s, 2, 0);
        } else {
            m.trap(3 + 32, operation, 3, s, 2, 0);
        }
    }

    private void systemNeeded(Machine m, int set) {
        if ((set & SYSTEM) == 0) {
            m.trap(3 + 128, 29, 3, 0, 0, 0);
            m.flow(18, 3, 2, 0, 0);
            m.trap(3 + 128, 31, 0, 0, 0, 0);
        } else {
            m.op(29, 3, 2, 0, 1);
            m.flow(31, 0, 0, 0, 0);
            m.due("PCC", m.reg(8, 0), 512);
        }
    }

    private void told(Machine m, int address, int meta, int permissions, int type) {
        m.raw(2, address, meta);
        m.dueReg(2, address, meta, 0);
        m.op(25, 3, 2, 0, 2);
        m.dueNumber(3, permissions);
        m.op(25, 3, 2, 0, 3);
        m.dueNumber(3, type);
        m.op(25, 3, 2, 0, 6);
        m.dueNumber(3, meta);
    }

    private void bitsOfTheMeta() {
        tally.sentence("the next four the TYPE, the next five E, the next seven B, the next seven T,"
            + " and the highest one means nothing.");
        for (int bit = 0; bit < 32; bit++) {
            Machine m = machine("meta with bit " + bit);
            told(m, 0, 1 << bit, bit < 8 ? 1 << bit : 0, bit >= 8 && bit < 12 ? 1 << bit - 8 : 0);
            int b = bit >= 17 && bit < 24 ? 1 << bit - 17 : 0;
            m.dueBounds(2, b > 16 ? b - 128 : b, bit >= 24 && bit < 31 ? 1 << bit - 24 : 0);
            told(m, 0, ~(1 << bit), bit < 8 ? ALL - (1 << bit) : ALL, bit >= 8 && bit < 12 ? 15 - (1 << bit - 8) : 15);
        }
        int[] exponents = {0, 1, 2, 4, 8, 15, 16, 30, 31};
        for (int e : exponents) {
            Machine m = machine("E being " + e);
            m.raw(2, 0, Machine.meta(0, 0, e, 1, 2));
            m.dueBounds(2, 1L << e, 2L << e);
            m.raw(2, 0, Machine.meta(ALL, 15, e, 1, 2) | MIN);
            m.dueBounds(2, 1L << e, 2L << e);
        }
    }

    private void nullCapability() {
        tally.sentence("NULL has no tag, meta 0, address 0.");
        Machine m = machine("null");
        int[] nulls = {0, 2, 3, 4, 5, 6, 7, 9, 10, 11};
        for (int r : nulls) {
            m.dueReg(r, 0, 0, 0);
            m.dueBounds(r, 0, 0);
        }
        m.op(27, 2, 1, 0, 0);
        m.op(27, 2, 0, 0, 0);
        m.dueReg(2, 0, 0, 0);
    }

    /** Makes register 2 one with the bounds 512 .. 576 and this type, which may be 0 or 1. */
    private void typed(Machine m, int type) {
        m.cap(2, 512, 64, ALL);
        if (type == 1) {
            int back = m.reg(8, 0) + 4;
            m.flow(18, 4, 2, 0, 0);
            m.entry(2);
            m.flow(18, 0, 4, 0, 0);
            m.due("back", m.reg(8, 0), back);
        } else if (type > 1) {
            m.sealed(2, type);
        }
        m.due("type", m.reg(2, 1) >> 8 & 15, type);
        m.due("tag of type " + type, m.reg(2, 2), 1);
    }

    private void sealed() {
        tally.sentence("A capability is SEALED if its type is not 0");
        for (int type = 0; type < 16; type++) {
            Machine m = machine("type " + type);
            typed(m, type);
            int[] operations = {11, 12, 13, 14};
            m.give(3, 0);
            for (int operation : operations) {
                if (type == 0) {
                    m.op(operation, 3, 2, 0, 8);
                } else {
                    m.trap(2 + 32, operation, 3, 2, 0, 8);
                }
            }
            m.give(3, 0);
            m.op(22, 3, 2, 3, 0);
            m.due("tag when moved away", m.reg(3, 2), 0);
            m.op(21, 3, 2, 0, 0);
            m.due("tag when moved to where it is", m.reg(3, 2), type == 0 ? 1 : 0);
        }
    }

    private void entry() {
        tally.sentence("a sealed one of type 1 is an ENTRY.");
        for (int type = 0; type < 16; type++) {
            Machine m = machine("entry of type " + type);
            typed(m, type);
            int address = m.reg(2, 0);
            m.give(3, 0);
            if (type < 2) {
                m.flow(18, 0, 2, 0, 0);
                m.dueReg(8, address, m.reg(2, 1) & ~0xF00, 1);
            } else {
                m.trap(2 + 32, 18, 3, 2, 0, 0);
            }
            m = machine("return to type " + type);
            typed(m, type);
            m.op(29, 0, 2, 0, 1);
            int meta = m.reg(2, 1);
            m.flow(31, 0, 0, 0, 0);
            m.dueReg(8, m.reg(2, 0), type == 1 ? meta & ~0xF00 : meta, 1);
            m.dueReg(10, m.reg(2, 0), meta, 1);
        }
        for (int type = 0; type < 16; type++) {
            Machine m = machine("unseal of type " + type);
            typed(m, type);
            m.give(5, type);
            m.op(22, 5, 1, 5, 0);
            if (type < 2) {
                m.trap(2 + 32, 24, 3, 2, 5, 0);
            } else {
                m.op(24, 3, 2, 5, 0);
                m.dueReg(3, m.reg(2, 0), m.reg(2, 1) & ~0xF00, 1);
            }
        }
    }

    private void number() {
        tally.sentence("A NUMBER in a register is a capability without a tag, with meta 0 and the number as its address.");
        int[] numbers = {MIN, -1, 0, 1, MAX};
        for (int number : numbers) {
            Machine m = machine("number " + number);
            m.give(1, number);
            m.dueReg(1, number, 0, 0);
            m.op(27, 2, 1, 0, 0);
            m.dueReg(2, number, 0, 0);
        }
        // Over a capability that is sealed, in each operation that writes a number.
        for (int operation = 1; operation <= 10; operation++) {
            step("operation " + operation + " over register 4", Machine.code(operation, 4, 0, 0, 0)).number(4, 0)
                .inOneStep();
        }
        step("load over register 4", Machine.code(11, 4, 1, 0, 4)).number(4, ROOT_META | 1 << 8).inOneStep();
        step("get over register 4", Machine.code(25, 4, 4, 0, 3)).number(4, 5).inOneStep();
    }

    private void bounds(int e, int b, int t, int address, long base, long top) {
        Machine m = machine("E " + e + ", B " + b + ", T " + t + " at " + address);
        m.raw(2, address, Machine.meta(0, 0, e, b, t));
        m.dueBounds(2, base, top);
        m.op(25, 3, 2, 0, 0);
        m.dueNumber(3, (int) base);
    }

    private void window() {
        tally.sentence("where V is the one number that is the same as (B - 16) * U modulo 128 * U, is not above A,"
            + " and is above A - 128 * U.");
        bounds(0, 16, 16, 0, 16, 16);
        bounds(0, 16, 16, 1, 16, 16);
        bounds(0, 16, 16, 127, 16, 16);
        bounds(0, 16, 16, 128, 144, 144);
        bounds(0, 15, 15, 0, 15, 15);
        bounds(0, 15, 15, 126, 15, 15);
        bounds(0, 15, 15, 127, 143, 143);
        bounds(0, 17, 17, 0, -111, -111);
        bounds(0, 17, 17, 1, 17, 17);
        bounds(0, 17, 17, 128, 17, 17);
        bounds(0, 17, 17, 129, 145, 145);
        bounds(0, 0, 0, 111, 0, 0);
        bounds(0, 0, 0, 112, 128, 128);
        bounds(0, 127, 127, 110, -1, -1);
        bounds(0, 127, 127, 111, 127, 127);
        tally.sentence("the TOP the one number, that is the same as T * U, modulo 128 * U and lies in the WINDOW:"
            + " the numbers from V on, 128 * U of them");
        bounds(0, 16, 0, 5, 16, 0);
        bounds(0, 16, 15, 5, 16, 15);
        bounds(0, 16, 17, 5, 16, 17);
        bounds(0, 16, 127, 5, 16, 127);
        bounds(0, 20, 3, 4, 20, 131);
        bounds(0, 20, 4, 4, 20, 4);
        bounds(0, 20, 5, 4, 20, 5);
        bounds(0, 20, 3, 3, -108, 3);
        bounds(0, 20, 4, 3, -108, -124);
        tally.sentence("A the greatest multiple of U that is not above the address (unsigned)");
        bounds(1, 31, 31, 29, -194, -194);
        bounds(1, 31, 31, 30, 62, 62);
        bounds(1, 31, 31, 31, 62, 62);
        bounds(4, 0, 64, 1791, 0, 1024);
        bounds(4, 0, 64, 1792, 2048, 3072);
        bounds(31, 17, 17, MAX, -111L << 31, -111L << 31);
        bounds(31, 17, 17, MIN, 17L << 31, 17L << 31);
        bounds(31, 17, 17, -1, 17L << 31, 17L << 31);
    }

    private void boundsOfAnySize() {
        tally.sentence("(These are whole numbers of any size, also below 0.)");
        bounds(0, 18, 1, 1, -110, 1);
        bounds(0, 18, 0, 1, -110, 0);
        bounds(0, 18, 2, 1, -110, -126);
        bounds(0, 1, 0, -1, WORD + 1, WORD);
        bounds(0, 15, 126, -1, WORD + 15, WORD + 126);
        bounds(31, 18, 1, MIN, -110L << 31, 1L << 31);
        bounds(31, 18, 2, -1, -110L << 31, -126L << 31);
        bounds(31, 18, 1, 0, -110L << 31, 1L << 31);
        bounds(31, 18, 3, 0, -110L << 31, -125L << 31);
        bounds(31, 16, 127, -1, 16L << 31, 127L << 31);
        bounds(31, 17, 0, -1, 17L << 31, 128L << 31);
        bounds(31, 17, 1, -1, 17L << 31, 1L << 31);
        bounds(30, 19, 2, -1, 19L << 30, 130L << 30);
    }

    private void lengthTold(int e, int b, int t, int want) {
        Machine m = machine("length of E " + e + ", B " + b + ", T " + t);
        m.raw(2, 0, Machine.meta(0, 0, e, b, t));
        m.op(25, 3, 2, 0, 1);
        m.dueNumber(3, want);
    }

    private void length() {
        tally.sentence("The LENGTH is top - base.");
        lengthTold(0, 20, 20, 0);
        lengthTold(0, 20, 21, 1);
        lengthTold(0, 20, 19, -1);
        lengthTold(0, 20, 4, -16);
        lengthTold(0, 20, 3, 111);
        lengthTold(0, 0, 112, -16);
        lengthTold(0, 0, 111, 111);
        lengthTold(24, 0, 111, 111 << 24);
        lengthTold(25, 0, 64, MIN);
        lengthTold(31, 0, 1, MIN);
        lengthTold(31, 0, 2, 0);
        lengthTold(31, 0, 127, MIN);
    }

    /** Bounds the root, moved to an address, for a length; the tag stays if it is within 0 .. 1024. */
    private void narrowed(int address, int length, int e, int b, int t, long base, long top) {
        Machine m = machine("bounded from " + address + " for " + length);
        m.give(2, address);
        m.op(22, 3, 1, 2, 0);
        m.give(2, length);
        m.op(19, 4, 3, 2, 0);
        boolean moved = address >= 0 && address < 1792;
        m.dueReg(4, address, Machine.meta(ALL, 0, e, b, t), moved && base >= 0 && top <= 1024 ? 1 : 0);
        m.dueBounds(4, base, top);
    }

    private void leastE() {
        tally.sentence("E is the least number for which c - f is at most 96, f being b / U rounded down and c being"
            + " t / U rounded up");
        narrowed(0, 0, 0, 0, 0, 0, 0);
        narrowed(0, 1, 0, 0, 1, 0, 1);
        narrowed(0, 95, 0, 0, 95, 0, 95);
        narrowed(0, 96, 0, 0, 96, 0, 96);
        narrowed(0, 97, 1, 0, 49, 0, 98);
        narrowed(0, 98, 1, 0, 49, 0, 98);
        narrowed(0, 99, 1, 0, 50, 0, 100);
        narrowed(0, 191, 1, 0, 96, 0, 192);
        narrowed(0, 192, 1, 0, 96, 0, 192);
        narrowed(0, 193, 2, 0, 49, 0, 196);
        narrowed(0, 384, 2, 0, 96, 0, 384);
        narrowed(0, 385, 3, 0, 49, 0, 392);
        narrowed(0, 768, 3, 0, 96, 0, 768);
        narrowed(0, 769, 4, 0, 49, 0, 784);
        narrowed(0, 1023, 4, 0, 64, 0, 1024);
        narrowed(0, 1024, 4, 0, 64, 0, 1024);
        narrowed(0, 1025, 4, 0, 65, 0, 1040);
        narrowed(1, 95, 0, 1, 96, 1, 96);
        narrowed(1, 96, 0, 1, 97, 1, 97);
        narrowed(1, 97, 1, 0, 49, 0, 98);
        narrowed(1, 191, 1, 0, 96, 0, 192);
        narrowed(1, 192, 2, 0, 49, 0, 196);
        narrowed(2, 192, 1, 1, 97, 2, 194);
        narrowed(3, 191, 1, 1, 97, 2, 194);
        narrowed(3, 192, 2, 0, 49, 0, 196);
        narrowed(7, 193, 2, 1, 50, 4, 200);
    }

    private void boundsModulo128() {
        tally.sentence("B is f and T is c, both modulo 128");
        narrowed(126, 1, 0, 126, 127, 126, 127);
        narrowed(127, 0, 0, 127, 127, 127, 127);
        narrowed(127, 1, 0, 127, 0, 127, 128);
        narrowed(127, 2, 0, 127, 1, 127, 129);
        narrowed(128, 0, 0, 0, 0, 128, 128);
        narrowed(128, 1, 0, 0, 1, 128, 129);
        narrowed(127, 96, 0, 127, 95, 127, 223);
        narrowed(254, 100, 1, 127, 49, 254, 354);
        narrowed(256, 100, 1, 0, 50, 256, 356);
        narrowed(1023, 1, 0, 127, 0, 1023, 1024);
        narrowed(1024, 0, 0, 0, 0, 1024, 1024);
        narrowed(1023, 2, 0, 127, 1, 1023, 1025);
    }

    private void largeBounds() {
        tally.sentence("D is S, bounded from S.x (unsigned) to S.x + T.x (both unsigned)");
        narrowed(0, 0xBFFFFFFF, 25, 0, 96, 0, 0xC0000000L);
        narrowed(0, 0xC0000000, 25, 0, 96, 0, 0xC0000000L);
        narrowed(0, 0xC0000001, 26, 0, 49, 0, 0xC4000000L);
        narrowed(0, -1, 26, 0, 64, 0, WORD);
        narrowed(0, MAX, 25, 0, 64, 0, WORD / 2);
        narrowed(0, MIN, 25, 0, 64, 0, WORD / 2);
        narrowed(-1, 0, 0, 127, 127, WORD - 1, WORD - 1);
        narrowed(-1, 1, 0, 127, 0, WORD - 1, WORD);
        narrowed(-1, 2, 0, 127, 1, WORD - 1, WORD + 1);
        narrowed(-1, -1, 26, 63, 0, 63L << 26, 128L << 26);
        narrowed(MIN, MIN, 25, 64, 0, WORD / 2, WORD);
        narrowed(MAX, 1, 0, 127, 0, WORD / 2 - 1, WORD / 2);
        narrowed(1, -1, 26, 0, 64, 0, WORD);
        narrowed(2, -1, 26, 0, 65, 0, 65L << 26);
    }

    private void highestBitOfBounded() {
        tally.sentence("the highest bit of the meta is 0.");
        int[] types = {0, 1, 15};
        for (int type : types) {
            Machine m = machine("highest bit with type " + type);
            m.raw(2, 40, Machine.meta(ALL, type, 31, 127, 127) | MIN);
            m.give(3, 8);
            m.op(19, 4, 2, 3, 0);
            m.dueReg(4, 40, Machine.meta(ALL, type, 0, 40, 48), 0);
            m.op(20, 4, 2, 3, 0);
            m.dueReg(4, 40, Machine.meta(8, type, 31, 127, 127) | MIN, 0);
        }
    }

    /** A load, a store and the two of capabilities from register 2 with these bounds. */
    private void access(int base, int length, int bytes, int x, boolean lies) {
        int[] operations = bytes == 4 ? new int[] {11, 12} : new int[] {13, 14};
        for (int operation : operations) {
            Machine m = machine("operation " + operation + " at " + x + " of " + base + " for " + length);
            m.cap(2, base, length, ALL);
            m.dueBounds(2, base, base + length);
            m.give(3, 0);
            if (lies) {
                m.op(operation, 3, 2, 0, x - base);
            } else {
                m.trap(5 + 32, operation, 3, 2, 0, x - base);
            }
        }
    }

    private void liesIn() {
        tally.sentence("A number x LIES IN a capability from x on for n bytes if base <= x and x + n <= top.");
        int[][] fours = {{404, 12, 400, 0}, {404, 12, 404, 1}, {404, 12, 412, 1}, {404, 12, 416, 0},
            {403, 13, 404, 1}, {405, 11, 404, 0}, {405, 11, 408, 1}, {404, 11, 412, 0}, {404, 13, 412, 1},
            {404, 13, 416, 0}, {404, 4, 404, 1}, {404, 3, 404, 0}, {404, 5, 404, 1}, {404, 0, 404, 0},
            {0, 4, 0, 1}, {0, 4, -4, 0}, {1, 7, 0, 0}, {0, 3, 0, 0}, {1020, 4, 1020, 1}, {1020, 4, 1024, 0},
            {1020, 3, 1020, 0}, {1024, 0, 1020, 0}, {1024, 0, 1024, 0}};
        for (int[] c : fours) {
            access(c[0], c[1], 4, c[2], c[3] == 1);
        }
        int[][] eights = {{400, 16, 392, 0}, {400, 16, 400, 1}, {400, 16, 408, 1}, {400, 16, 416, 0},
            {401, 15, 400, 0}, {399, 17, 400, 1}, {400, 15, 408, 0}, {400, 17, 408, 1}, {400, 17, 416, 0},
            {400, 8, 400, 1}, {400, 7, 400, 0}, {404, 12, 400, 0}, {400, 12, 408, 0}, {0, 8, 0, 1}, {0, 8, -8, 0},
            {1016, 8, 1016, 1}, {1016, 8, 1024, 0}, {1016, 7, 1016, 0}, {1016, 4, 1016, 0}};
        for (int[] c : eights) {
            access(c[0], c[1], 8, c[2], c[3] == 1);
        }
        int[][] ones = {{3, 6, 2, 0}, {3, 6, 3, 1}, {3, 6, 8, 1}, {3, 6, 9, 0}, {3, 1, 3, 1}, {3, 0, 3, 0}};
        for (int[] c : ones) {
            sealIn(c[0], c[1], c[2], c[3] == 1);
        }
    }

    private void sealIn(int base, int length, int type, boolean lies) {
        Machine m = machine("seal with " + type + " of " + base + " for " + length);
        m.cap(2, base, length, SEAL);
        m.give(3, type);
        m.op(22, 2, 2, 3, 0);
        if (lies) {
            m.op(23, 4, 1, 2, 0);
        } else {
            m.trap(5 + 32, 23, 4, 1, 2, 0);
        }
    }

    private void moved(int base, int length, int to, int tag) {
        Machine m = machine("from " + base + " for " + length + " moved to " + to);
        m.cap(2, base, length, ALL);
        int meta = m.reg(2, 1);
        m.give(3, to);
        m.op(22, 4, 2, 3, 0);
        m.dueReg(4, to, meta, tag);
        m.give(3, to - base);
        m.op(21, 4, 2, 3, 0);
        m.dueReg(4, to, meta, tag);
        m.op(28, 5, 2, 0, 0);
        m.op(21, 4, 5, 3, 0);
        m.dueReg(4, to, meta, 0);
    }

    private void move() {
        tally.sentence("To MOVE a capability to an address: it has that address; it has no tag any more if it is sealed"
            + " or its base or top is another one than before.");
        int[][] cases = {{400, 40, 383, 0}, {400, 40, 384, 1}, {400, 40, 399, 1}, {400, 40, 400, 1}, {400, 40, 439, 1},
            {400, 40, 440, 1}, {400, 40, 511, 1}, {400, 40, 512, 0}, {400, 40, MIN + 400, 0}, {400, 40, -1, 0},
            {400, 40, 400 + 128, 0}, {400, 0, 400, 1}, {400, 0, 511, 1}, {400, 0, 512, 0}, {16, 8, 0, 1}, {16, 8, -1, 0},
            {16, 8, 127, 1}, {16, 8, 128, 0}, {0, 1024, 1023, 1}, {0, 1024, 1024, 1}, {0, 1024, 1791, 1},
            {0, 1024, 1792, 0}, {0, 1024, -1, 0}, {0, 1024, MAX, 0}, {0, 1024, MIN, 0}, {200, 100, 167, 0},
            {200, 100, 168, 1}, {200, 100, 423, 1}, {200, 100, 424, 0}};
        for (int[] c : cases) {
            moved(c[0], c[1], c[2], c[3]);
        }
        movedBackHasNoTag();
        movedRoundAll();
    }

    private void movedBackHasNoTag() {
        Machine m = machine("moved away and back");
        m.cap(2, 400, 40, ALL);
        m.give(3, 512);
        m.op(22, 2, 2, 3, 0);
        m.dueBounds(2, 528, 568);
        m.give(3, 400);
        m.op(22, 2, 2, 3, 0);
        m.dueBounds(2, 400, 440);
        m.due("tag", m.reg(2, 2), 0);
    }

    /** An empty one with the greatest unit has the same bounds at every address. */
    private void movedRoundAll() {
        Machine m = machine("moved round all numbers");
        m.raw(2, 0, Machine.meta(ALL, 0, 31, 0, 0));
        m.op(26, 2, 1, 2, 0);
        m.due("tag", m.reg(2, 2), 1);
        int[] steps = {MAX, 1, MAX, 1, -1, MIN};
        int at = 0;
        for (int by : steps) {
            at += by;
            m.give(3, by);
            m.op(21, 2, 2, 3, 0);
            m.dueReg(2, at, Machine.meta(ALL, 0, 31, 0, 0), 1);
            m.dueBounds(2, 0, 0);
        }
        m.give(3, -4);
        m.op(22, 2, 2, 3, 0);
        m.trap(5 + 32, 11, 3, 2, 0, 0);
        m.trap(5 + 32, 11, 3, 2, 0, 4);
        m.trap(5 + 32, 12, 3, 2, 0, 8);
        m.trap(4 + 32, 11, 3, 2, 0, 5);
    }

    private void moveSealed() {
        tally.sentence("To MOVE ... it has no tag any more if it is sealed");
        for (int type = 1; type < 16; type++) {
            Machine m = machine("moved with type " + type);
            typed(m, type);
            int at = m.reg(2, 0);
            int meta = m.reg(2, 1);
            m.op(21, 3, 2, 0, 0);
            m.dueReg(3, at, meta, 0);
            m.op(22, 3, 2, 2, 0);
            m.dueReg(3, at, meta, 0);
            m.give(3, at + 4);
            m.op(22, 3, 2, 3, 0);
            m.dueReg(3, at + 4, meta, 0);
        }
    }

    private void wordsAndGranules() {
        tally.sentence("word w is the bytes 4 * w .. 4 * w + 3. Two words 2 * g and 2 * g + 1 are GRANULE g");
        int[] words = {0, 1, 2, 127, 128, 253, 254, 255};
        for (int word : words) {
            Machine m = machine("word " + word);
            m.flow(15, 0, 0, 0, 40);
            m.poke(word, 1000 + word);
            m.op(11, 2, 1, 0, 4 * word);
            m.dueNumber(2, 1000 + word);
            m.op(12, 0, 1, 0, 4 * word);
            m.due("the word after a store", m.peek(word), 0);
            for (int k = 1; k < 4; k++) {
                m.trap(4 + 16, 11, 2, 1, 0, 4 * word + k);
            }
            int g = word / 2;
            m.op(14, 0, 1, 1, 8 * g);
            m.due("tagged", m.tagged(g) ? 1 : 0, 1);
            m.due("lower word", m.peek(2 * g), 0);
            m.due("other word", m.peek(2 * g + 1), ROOT_META);
            for (int k = 1; k < 8; k++) {
                m.trap(4 + 16, 13, 2, 1, 0, 8 * g + k);
            }
            m.poke(word, 1);
            m.due("tagged after poke", m.tagged(g) ? 1 : 0, 0);
        }
    }

    private void registerZero() {
        tally.sentence("(0 is always null; what is written to it is lost)");
        int[][] writers = {{1, 2, 0, 5}, {2, 2, 3, 0}, {3, 2, 3, 0}, {4, 2, 2, 0}, {5, 2, 3, 0}, {6, 2, 3, 0},
            {7, 2, 0, 0}, {8, 2, 0, 0}, {9, 7, 3, 0}, {10, 0, 0, 7}, {11, 1, 0, 4}, {13, 1, 0, 960}, {19, 2, 0, 0},
            {20, 2, 3, 0}, {21, 2, 0, 0}, {22, 1, 2, 0}, {25, 2, 0, 0}, {26, 1, 6, 0}, {27, 2, 0, 0}, {28, 2, 0, 0},
            {29, 0, 0, 0}, {29, 0, 0, 1}, {29, 0, 0, 2}, {17, 0, 0, 1}};
        for (int[] w : writers) {
            step("operation " + w[0] + " into 0", Machine.code(w[0], 0, w[1], w[2], w[3])).inOneStep();
        }
        int authority = Machine.code(1, 3, 0, 0, 5);
        int moved = Machine.code(22, 3, 1, 3, 0);
        step("seal into 0", authority, moved, Machine.code(23, 0, 2, 3, 0)).inOneStep();
        step("unseal into 0", authority, moved, Machine.code(24, 0, 4, 3, 0)).inOneStep();
        step("jump with 0", Machine.code(18, 0, 5, 0, 0)).register(8, 32, ROOT_META, 1, 0, 1024).inOneStep();
        step("swap into 0", Machine.code(29, 0, 3, 0, 2)).number(11, 77).inOneStep();
        new Effect(tally, "give(0, 5)", () -> Scene.running(tally)).of(c -> c.give(0, 5) ? 1 : 0, 0);
    }

    private void atFirst() {
        tally.sentence("register 1 and PCC, which have a tag, all permissions, type 0, address 0, and the bounds 0 and"
            + " 1024 (bounded).");
        Machine m = machine("at first");
        int[] roots = {1, 8};
        for (int r : roots) {
            m.dueReg(r, 0, Machine.meta(ALL, 0, 4, 0, 64), 1);
            m.dueBounds(r, 0, 1024);
        }
        m.op(11, 2, 1, 0, 1020);
        m.trap(5 + 16, 11, 2, 1, 0, 1024);
        m.op(13, 2, 1, 0, 1016);
        m.trap(5 + 16, 13, 2, 1, 0, 1024);
        int at = m.reg(8, 0);
        m.flow(15, 0, 0, 0, 255 - at / 4);
        m.due("PCC", m.reg(8, 0), 1020);
        m.op(1, 2, 0, 0, 8);
        m.due("register 2 by the last word", m.reg(2, 0), 8);
        m.trapAtPcc(5 + 128, 1024);
    }
}
