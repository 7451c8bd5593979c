/** The operations 0 to 31, the checks and the traps, with answers worked out by hand. */
public final class OperationsTest {
    private static final int ROOT_META = 255 | 4 << 12 | 64 << 24;
    private static final int EXECUTE = 1;
    private static final int LOAD = 2;
    private static final int STORE = 4;
    private static final int LOADCAP = 8;
    private static final int STORECAP = 16;
    private static final int SEAL = 32;
    private static final int UNSEAL = 64;
    private static final int SYSTEM = 128;

    private final Tally tally;

    private OperationsTest(Tally tally) {
        this.tally = tally;
    }

    public static void main(String[] args) {
        Tally tally = new Tally("OperationsTest");
        OperationsTest test = new OperationsTest(tally);
        test.halt();
        test.numbers();
        test.numbersReplaceCapabilities();
        test.registerZeroIsNull();
        test.load();
        test.checks();
        test.theFirstCauseCounts();
        test.store();
        test.loadCapability();
        test.storeCapability();
        test.branches();
        test.link();
        test.branchOutOfTheWindow();
        test.jump();
        test.jumpTraps();
        test.bounded();
        test.boundedOfSealed();
        test.permissions();
        test.moved();
        test.seal();
        test.sealTraps();
        test.unseal();
        test.get();
        test.build();
        test.buildRefused();
        test.copies();
        test.swap();
        test.withoutSystem();
        test.returning();
        test.handlers();
        test.pccTraps();
        test.specialPcc();
        tally.end();
    }

    private Machine machine(String name) {
        return new Machine(tally, name);
    }

    private void halt() {
        Machine m = machine("halt");
        m.op(1, 2, 0, 0, 5);
        m.flow(0, 7, 6, 5, -1);
        m.due("state", m.state(), 1);
        m.dueReg(8, 4, ROOT_META, 1);
        m.dueReg(10, 0, 0, 0);
    }

    private void computed(Machine m, int operation, int x, int y, int want) {
        m.give(2, x);
        m.give(3, y);
        m.op(operation, 4, 2, 3, 77);
        m.dueNumber(4, want);
    }

    private void addedI(Machine m, int x, int i, int want) {
        m.give(2, x);
        m.op(1, 4, 2, 3, i);
        m.dueNumber(4, want);
    }

    private void numbers() {
        Machine m = machine("numbers");
        addedI(m, 40, 2, 42);
        addedI(m, 40, -41, -1);
        addedI(m, 0, 131071, 131071);
        addedI(m, 0, -131072, -131072);
        addedI(m, Integer.MAX_VALUE, 1, Integer.MIN_VALUE);
        computed(m, 2, 5, -7, -2);
        computed(m, 2, Integer.MAX_VALUE, Integer.MAX_VALUE, -2);
        computed(m, 3, 5, -7, 12);
        computed(m, 3, Integer.MIN_VALUE, 1, Integer.MAX_VALUE);
        computed(m, 4, 12, 10, 8);
        computed(m, 5, 12, 10, 14);
        computed(m, 6, 12, 10, 6);
        computed(m, 7, 3, 4, 48);
        computed(m, 7, 3, 31, Integer.MIN_VALUE);
        computed(m, 7, 3, 33, 6);
        m = machine("more numbers");
        computed(m, 7, 3, -32, 3);
        computed(m, 8, -1, 28, 15);
        computed(m, 8, -1, 32, -1);
        computed(m, 8, 64, 35, 8);
        computed(m, 9, 1, 2, 1);
        computed(m, 9, 2, 2, 0);
        computed(m, 9, -1, 0, 1);
        computed(m, 9, 0, -1, 0);
        computed(m, 9, Integer.MIN_VALUE, Integer.MAX_VALUE, 1);
        computed(m, 10, 9, 9, 77 * 16384);
        m.op(10, 4, 0, 0, -1);
        m.dueNumber(4, -16384);
        m.op(10, 4, 0, 0, 131071);
        m.dueNumber(4, 131071 << 14);
        m.op(10, 4, 0, 0, -131072);
        m.dueNumber(4, Integer.MIN_VALUE);
    }

    private void numbersReplaceCapabilities() {
        for (int operation = 1; operation <= 10; operation++) {
            Machine m = machine("number over a capability by " + operation);
            m.op(27, 4, 1, 0, 0);
            m.op(operation, 4, 4, 4, 0);
            m.due("meta", m.reg(4, 1), 0);
            m.due("tag", m.reg(4, 2), 0);
        }
        Machine m = machine("D is S and T");
        m.give(2, 21);
        m.op(2, 2, 2, 2, 0);
        m.dueNumber(2, 42);
        m.op(3, 2, 2, 2, 0);
        m.dueNumber(2, 0);
    }

    private void registerZeroIsNull() {
        Machine m = machine("register 0");
        m.give(2, 100);
        m.cap(3, 4, 8, 255);
        m.op(27, 4, 1, 0, 0);
        m.sealed(4, 9);
        m.give(5, 9);
        m.op(22, 5, 1, 5, 0);
        m.op(14, 0, 1, 1, 1000);
        int[][] writers = {{1, 2, 0, 5}, {2, 2, 2, 0}, {10, 0, 0, 7}, {11, 1, 0, 1000}, {13, 1, 0, 1000}, {19, 1, 2, 0},
            {20, 1, 2, 0}, {21, 1, 2, 0}, {22, 1, 2, 0}, {23, 1, 5, 0}, {24, 4, 5, 0}, {25, 1, 0, 2}, {26, 1, 1, 0},
            {27, 1, 0, 0}, {28, 1, 0, 0}, {29, 1, 0, 2}, {29, 0, 0, 2}};
        for (int[] w : writers) {
            m.op(w[0], 0, w[1], w[2], w[3]);
            m.dueReg(0, 0, 0, 0);
        }
        m.flow(17, 0, 0, 0, 1);
        m.dueReg(0, 0, 0, 0);
        m.flow(18, 0, 3, 0, 0);
        m.dueReg(0, 0, 0, 0);
    }

    private void load() {
        Machine m = machine("load");
        m.poke(101, -12345);
        m.poke(255, 6);
        m.cap(2, 400, 16, LOAD);
        m.op(27, 3, 1, 0, 0);
        m.op(11, 3, 2, 0, 4);
        m.dueNumber(3, -12345);
        m.op(11, 3, 1, 0, 1020);
        m.dueNumber(3, 6);
        m.give(4, 404);
        m.op(22, 2, 2, 4, 0);
        m.op(11, 2, 2, 0, 0);
        m.dueNumber(2, -12345);
        m.give(4, 1500);
        m.op(22, 5, 1, 4, 0);
        m.op(11, 3, 5, 0, -480);
        m.dueNumber(3, 6);
    }

    private void checks() {
        Machine m = machine("checks of load");
        m.cap(2, 400, 16, LOAD);
        m.give(3, 7);
        m.trap(1, 11, 3, 0, 0, 0);
        m.trap(1 + 48, 11, 3, 3, 0, 0);
        m.op(27, 4, 2, 0, 0);
        m.sealed(4, 3);
        m.trap(2 + 64, 11, 3, 4, 0, 0);
        m.cap(5, 400, 16, 255 - LOAD);
        m.trap(3 + 80, 11, 3, 5, 0, 0);
        m.trap(4 + 32, 11, 3, 2, 0, 1);
        m.trap(4 + 32, 11, 3, 2, 0, 2);
        m.trap(5 + 32, 11, 3, 2, 0, -4);
        m.trap(5 + 32, 11, 3, 2, 0, 16);
        m.op(11, 3, 2, 0, 0);
        m.op(11, 3, 2, 0, 12);
        m.trap(5 + 16, 11, 3, 1, 0, 1024);
        m.trap(5 + 16, 11, 3, 1, 0, -4);
        m = machine("checks of bounds that are no multiple");
        m.cap(2, 402, 13, 255);
        m.trap(5 + 32, 11, 3, 2, 0, -2);
        m.op(11, 3, 2, 0, 2);
        m.op(11, 3, 2, 0, 6);
        m.trap(5 + 32, 11, 3, 2, 0, 10);
        m.trap(5 + 32, 13, 3, 2, 0, -2);
        m.trap(5 + 32, 13, 3, 2, 0, 6);
        m.cap(2, 402, 14, 255);
        m.op(13, 3, 2, 0, 6);
        m.trap(5 + 32, 14, 3, 2, 3, 14);
    }

    private void theFirstCauseCounts() {
        Machine m = machine("order of causes");
        m.raw(2, 1, Machine.meta(0, 5, 0, 0, 0));
        m.trap(1 + 32, 11, 3, 2, 0, 0);
        m.cap(2, 401, 1, 255 - LOAD);
        m.trap(3 + 32, 11, 3, 2, 0, 10);
        m.op(27, 4, 2, 0, 0);
        m.sealed(4, 3);
        m.trap(2 + 64, 11, 3, 4, 0, 10);
        m.cap(2, 401, 1, LOAD);
        m.trap(4 + 32, 11, 3, 2, 0, 10);
        m.trap(5 + 32, 11, 3, 2, 0, 1023 - 400);
    }

    private void store() {
        Machine m = machine("store");
        m.op(14, 0, 1, 1, 400);
        m.op(14, 0, 1, 1, 408);
        m.due("tagged(50)", m.tagged(50) ? 1 : 0, 1);
        m.give(3, -9);
        m.op(12, 5, 1, 3, 404);
        m.due("the word", m.peek(101), -9);
        m.due("the other word", m.peek(100), 0);
        m.due("tagged(50) after", m.tagged(50) ? 1 : 0, 0);
        m.due("tagged(51) after", m.tagged(51) ? 1 : 0, 1);
        m.dueReg(5, 0, 0, 0);
        m.cap(2, 408, 8, STORE);
        m.op(12, 0, 2, 2, 0);
        m.due("the address stored", m.peek(102), 408);
        m.due("tagged(51) at the end", m.tagged(51) ? 1 : 0, 0);
        m.cap(2, 408, 8, 255 - STORE);
        m.trap(3 + 32, 12, 0, 2, 3, 0);
        m.trap(1 + 48, 12, 0, 3, 3, 0);
        m.trap(4 + 16, 12, 0, 1, 3, 410);
        m.op(14, 0, 1, 1, 408);
        m.cap(2, 400, 8, 255);
        m.trap(5 + 32, 12, 0, 2, 3, 8);
        m.due("the word after traps", m.peek(102), 0);
        m.due("its tag after traps", m.tagged(51) ? 1 : 0, 1);
    }

    private void loadCapability() {
        Machine m = machine("load capability");
        m.cap(2, 300, 20, 255);
        int meta = m.reg(2, 1);
        m.op(14, 0, 1, 2, 400);
        m.op(13, 3, 1, 0, 400);
        m.dueReg(3, 300, meta, 1);
        m.cap(4, 400, 16, LOAD | LOADCAP);
        m.op(13, 3, 4, 0, 0);
        m.dueReg(3, 300, meta, 1);
        m.cap(4, 400, 16, 255 - LOADCAP);
        m.op(13, 4, 4, 0, 0);
        m.dueReg(4, 300, meta, 0);
        m.poke(102, -5);
        m.poke(103, 0x87654321);
        m.op(13, 3, 1, 0, 408);
        m.dueReg(3, -5, 0x87654321, 0);
        m.cap(4, 400, 16, 255 - LOAD);
        m.trap(3 + 64, 13, 3, 4, 0, 0);
        m.trap(4 + 16, 13, 3, 1, 0, 404);
        m.trap(5 + 16, 13, 3, 1, 0, 1024);
        m.cap(4, 400, 12, LOAD);
        m.op(13, 3, 4, 0, 0);
        m.trap(5 + 64, 13, 3, 4, 0, 8);
    }

    private void storeCapability() {
        Machine m = machine("store capability");
        m.cap(2, 300, 20, 255);
        int meta = m.reg(2, 1);
        m.cap(4, 400, 16, STORE | STORECAP);
        m.op(14, 5, 4, 2, 8);
        m.due("lower word", m.peek(102), 300);
        m.due("other word", m.peek(103), meta);
        m.due("tagged(51)", m.tagged(51) ? 1 : 0, 1);
        m.due("tagged(50)", m.tagged(50) ? 1 : 0, 0);
        m.cap(4, 400, 16, 255 - STORECAP);
        m.trap(3 + 64, 14, 0, 4, 2, 0);
        m.op(28, 3, 2, 0, 0);
        m.op(14, 0, 4, 3, 8);
        m.due("lower word without a tag", m.peek(102), 300);
        m.due("tagged(51) after one without a tag", m.tagged(51) ? 1 : 0, 0);
        m.op(14, 0, 4, 0, 8);
        m.due("lower word of null", m.peek(102), 0);
        m.due("other word of null", m.peek(103), 0);
        m.cap(4, 400, 16, 255 - STORE);
        m.trap(3 + 64, 14, 0, 4, 3, 0);
        m.trap(4 + 16, 14, 0, 1, 2, 4);
        m.sealed(2, 4);
        m.op(14, 0, 1, 2, 408);
        m.due("sealed: other word", m.peek(103), meta | 4 << 8);
        m.due("sealed: tagged(51)", m.tagged(51) ? 1 : 0, 1);
    }

    private void branched(Machine m, int operation, int x, int y, int i, int words) {
        m.give(2, x);
        m.give(3, y);
        int at = m.reg(8, 0);
        m.flow(operation, 4, 2, 3, i);
        m.dueReg(8, at + 4 * words, ROOT_META, 1);
    }

    private void branches() {
        Machine m = machine("branches");
        branched(m, 15, 5, 5, 10, 10);
        branched(m, 15, 5, 6, 10, 1);
        branched(m, 15, -1, -1, -9, -9);
        branched(m, 15, 0, 0, 0, 0);
        branched(m, 16, 5, 6, 10, 10);
        branched(m, 16, 5, 5, 10, 1);
        branched(m, 16, 6, 5, 10, 1);
        branched(m, 16, -1, 0, -3, -3);
        branched(m, 16, 0, -1, 7, 1);
        m.dueReg(4, 0, 0, 0);
        // Only addresses are compared.
        int at = m.reg(8, 0);
        m.flow(15, 0, 0, 1, 6);
        m.due("branch on null and register 1", m.reg(8, 0), at + 24);
    }

    private void link() {
        Machine m = machine("link");
        m.op(1, 2, 0, 0, 0);
        m.flow(17, 3, 0, 0, 20);
        m.dueReg(8, 84, ROOT_META, 1);
        m.dueReg(3, 8, ROOT_META | 1 << 8, 1);
        m.flow(17, 3, 0, 0, -1);
        m.dueReg(8, 80, ROOT_META, 1);
        m.dueReg(3, 88, ROOT_META | 1 << 8, 1);
        m.flow(17, 0, 0, 0, 5);
        m.dueReg(8, 100, ROOT_META, 1);
        m.due("traps", m.traps(), 0);
    }

    /** Bounds 8 .. 104 have the window -8 .. 119: a branch that leaves it costs PCC its tag. */
    private void branchOutOfTheWindow() {
        Machine m = machine("branch out of the window");
        m.cap(2, 8, 96, 255);
        m.dueBounds(2, 8, 104);
        int meta = m.reg(2, 1);
        m.give(3, 100);
        m.op(22, 2, 2, 3, 0);
        m.flow(18, 5, 2, 0, 0);
        m.flow(17, 6, 0, 0, 5);
        m.dueReg(6, 104, meta | 1 << 8, 1);
        m.dueReg(8, 120, meta, 0);
        m.trapAtPcc(1 + 128, 120);
    }

    private void jump() {
        Machine m = machine("jump");
        m.cap(2, 512, 64, EXECUTE | LOAD);
        int meta = m.reg(2, 1);
        int at = m.reg(8, 0);
        m.op(27, 3, 1, 0, 0);
        m.flow(18, 4, 2, 0, 99);
        m.dueReg(8, 512, meta, 1);
        m.dueReg(4, at + 8, ROOT_META | 1 << 8, 1);
        m.dueReg(2, 512, meta, 1);
        // Back through the entry, with D being S: PCC gets S as it was.
        m.flow(18, 4, 4, 0, 0);
        m.dueReg(8, at + 8, ROOT_META, 1);
        m.dueReg(4, 516, meta | 1 << 8, 1);
        m.flow(18, 0, 4, 0, 0);
        m.dueReg(8, 516, meta, 1);
        m.dueReg(4, 516, meta | 1 << 8, 1);
    }

    private void jumpTraps() {
        Machine m = machine("jump's traps");
        m.give(2, 8);
        m.trap(1, 18, 3, 0, 0, 0);
        m.trap(1 + 32, 18, 3, 2, 0, 0);
        m.cap(2, 512, 64, 255 - EXECUTE);
        m.trap(3 + 32, 18, 3, 2, 0, 0);
        m.sealed(2, 2);
        m.trap(2 + 32, 18, 3, 2, 0, 0);
        m.op(27, 4, 1, 0, 0);
        m.sealed(4, 15);
        m.trap(2 + 64, 18, 3, 4, 0, 0);
        m.op(28, 4, 4, 0, 0);
        m.trap(1 + 64, 18, 3, 4, 0, 0);
        // An entry can't be made to lack EXECUTE: it loses its tag.
        m.entry(5);
        m.give(6, 254);
        m.op(20, 5, 5, 6, 0);
        m.trap(1 + 80, 18, 3, 5, 0, 0);
    }

    private void bounded() {
        Machine m = machine("bounded");
        m.give(2, 96);
        m.op(19, 3, 1, 2, 0);
        m.dueReg(3, 0, Machine.meta(255, 0, 0, 0, 96), 1);
        m.give(2, 97);
        m.op(19, 3, 1, 2, 0);
        m.dueReg(3, 0, Machine.meta(255, 0, 1, 0, 49), 1);
        m.dueBounds(3, 0, 98);
        m.op(19, 3, 1, 0, 0);
        m.dueReg(3, 0, Machine.meta(255, 0, 0, 0, 0), 1);
        m.give(2, 1024);
        m.op(19, 3, 1, 2, 0);
        m.dueReg(3, 0, ROOT_META, 1);
        m.give(2, 1025);
        m.op(19, 3, 1, 2, 0);
        m.dueReg(3, 0, Machine.meta(255, 0, 4, 0, 65), 0);
        m.cap(3, 100, 50, 7);
        m.give(2, 51);
        m.op(19, 4, 3, 2, 0);
        m.dueReg(4, 100, Machine.meta(7, 0, 0, 100, 23), 0);
        m.give(2, 99);
        m.op(22, 4, 3, 2, 0);
        m.give(2, 5);
        m.op(19, 4, 4, 2, 0);
        m.dueReg(4, 99, Machine.meta(7, 0, 0, 99, 104), 0);
        m.give(2, 149);
        m.op(22, 4, 3, 2, 0);
        m.op(25, 2, 4, 0, 4);
        m.op(19, 2, 4, 2, 0);
        m.dueReg(2, 149, Machine.meta(7, 0, 0, 21, 22), 1);
        m.give(2, -1);
        m.op(19, 4, 1, 2, 0);
        m.dueReg(4, 0, Machine.meta(255, 0, 26, 0, 64), 0);
        m.dueBounds(4, 0, 1L << 32);
    }

    private void boundedOfSealed() {
        Machine m = machine("bounded, of sealed");
        m.op(27, 3, 1, 0, 0);
        m.sealed(3, 6);
        m.give(2, 8);
        m.op(19, 4, 3, 2, 0);
        m.dueReg(4, 0, Machine.meta(255, 6, 0, 0, 8), 0);
        m.entry(3);
        int at = m.reg(3, 0);
        m.op(19, 4, 3, 2, 0);
        m.dueReg(4, at, Machine.meta(255, 1, 0, at & 127, at + 8 & 127), 0);
        m.raw(3, 7, 0x80000033);
        m.op(19, 4, 3, 2, 0);
        m.dueReg(4, 7, Machine.meta(0x33, 0, 0, 7, 15), 0);
        // Rounded outwards, the bounds go beyond those of S.
        m.cap(3, 101, 95, 255);
        m.dueBounds(3, 101, 196);
        m.cap(3, 3, 200, 255);
        m.dueBounds(3, 0, 204);
        m.give(2, 201);
        m.op(19, 4, 3, 2, 0);
        m.dueReg(4, 3, Machine.meta(255, 0, 2, 0, 51), 1);
        m.give(2, 202);
        m.op(19, 4, 3, 2, 0);
        m.dueReg(4, 3, Machine.meta(255, 0, 2, 0, 52), 0);
    }

    private void permissions() {
        Machine m = machine("permissions");
        m.give(2, 0x5A);
        m.op(20, 3, 1, 2, 0);
        m.dueReg(3, 0, ROOT_META & ~0xA5, 1);
        m.give(2, -1);
        m.op(20, 3, 3, 2, 0);
        m.dueReg(3, 0, ROOT_META & ~0xA5, 1);
        m.op(20, 3, 3, 0, 0);
        m.dueReg(3, 0, ROOT_META & ~0xFF, 1);
        m.op(27, 3, 1, 0, 0);
        m.sealed(3, 7);
        m.op(20, 4, 3, 2, 0);
        m.dueReg(4, 0, ROOT_META | 7 << 8, 0);
        m.entry(3);
        m.give(2, 1);
        m.op(20, 4, 3, 2, 0);
        m.dueReg(4, m.reg(3, 0), ROOT_META & ~0xFF | 1 << 8 | 1, 0);
        m.raw(3, 9, -1);
        m.op(20, 4, 3, 2, 0);
        m.dueReg(4, 9, 0xFFFFFF01, 0);
    }

    private void moved() {
        Machine m = machine("moved");
        m.cap(3, 400, 40, 7);
        int meta = m.reg(3, 1);
        m.give(2, 30);
        m.op(21, 4, 3, 2, 0);
        m.dueReg(4, 430, meta, 1);
        m.give(2, -20);
        m.op(21, 4, 4, 2, 0);
        m.dueReg(4, 410, meta, 1);
        m.give(2, 500);
        m.op(22, 4, 3, 2, 0);
        m.dueReg(4, 500, meta, 1);
        m.dueBounds(4, 400, 440);
        m.give(2, 128);
        m.op(21, 4, 3, 2, 0);
        m.dueReg(4, 528, meta, 0);
        m.op(22, 4, 3, 4, 0);
        m.dueReg(4, 528, meta, 0);
        m.give(2, 420);
        m.op(28, 4, 3, 0, 0);
        m.op(22, 4, 4, 2, 0);
        m.dueReg(4, 420, meta, 0);
        m.entry(3);
        m.op(21, 4, 3, 0, 0);
        m.dueReg(4, m.reg(3, 0), ROOT_META | 1 << 8, 0);
        // With D being T, T is read before it is written.
        m.give(2, 16);
        m.op(22, 2, 1, 2, 0);
        m.dueReg(2, 16, ROOT_META, 1);
    }

    private void authority(Machine m, int r, int type, int permissions) {
        m.give(r, type);
        m.op(22, r, 1, r, 0);
        m.give(7, permissions);
        m.op(20, r, r, 7, 0);
    }

    private void seal() {
        Machine m = machine("seal");
        m.cap(2, 400, 40, 7);
        int meta = m.reg(2, 1);
        authority(m, 3, 2, SEAL);
        m.op(23, 4, 2, 3, 0);
        m.dueReg(4, 400, meta | 2 << 8, 1);
        authority(m, 3, 15, SEAL);
        m.op(23, 4, 2, 3, 0);
        m.dueReg(4, 400, meta | 15 << 8, 1);
        m.op(23, 3, 2, 3, 0);
        m.dueReg(3, 400, meta | 15 << 8, 1);
        authority(m, 3, 9, SEAL);
        m.op(23, 3, 3, 3, 0);
        m.dueReg(3, 9, Machine.meta(SEAL, 9, 4, 0, 64), 1);
        m.due("traps", m.traps(), 0);
    }

    private void sealTraps() {
        Machine m = machine("seal's traps");
        m.cap(2, 400, 40, 7);
        authority(m, 3, 5, 255);
        m.trap(1, 23, 4, 0, 3, 0);
        m.op(23, 5, 2, 3, 0);
        m.trap(2 + 80, 23, 4, 5, 0, 0);
        m.trap(1, 23, 4, 2, 0, 0);
        m.trap(2 + 80, 23, 4, 2, 5, 0);
        authority(m, 3, 5, 255 - SEAL);
        m.trap(3 + 48, 23, 4, 2, 3, 0);
        m.cap(3, 4, 8, SEAL);
        m.give(6, 3);
        m.op(22, 6, 3, 6, 0);
        m.trap(5 + 96, 23, 4, 2, 6, 0);
        m.give(6, 12);
        m.op(22, 6, 3, 6, 0);
        m.trap(5 + 96, 23, 4, 2, 6, 0);
        m = machine("seal's types");
        m.cap(2, 400, 40, 7);
        int[] noTypes = {0, 1, 16, 1023};
        for (int type : noTypes) {
            authority(m, 3, type, SEAL);
            m.trap(7 + 48, 23, 4, 2, 3, 0);
        }
        authority(m, 3, 1024, SEAL);
        m.trap(5 + 48, 23, 4, 2, 3, 0);
    }

    private void unseal() {
        Machine m = machine("unseal");
        m.cap(2, 400, 40, 7);
        int meta = m.reg(2, 1);
        m.op(27, 4, 2, 0, 0);
        m.sealed(4, 5);
        authority(m, 3, 5, UNSEAL);
        m.op(24, 5, 4, 3, 0);
        m.dueReg(5, 400, meta, 1);
        m.trap(1, 24, 5, 0, 3, 0);
        m.trap(2 + 32, 24, 5, 2, 3, 0);
        m.entry(6);
        m.trap(2 + 96, 24, 5, 6, 3, 0);
        m.trap(1, 24, 5, 4, 0, 0);
        authority(m, 3, 5, 255 - UNSEAL);
        m.trap(3 + 48, 24, 5, 4, 3, 0);
        authority(m, 3, 6, UNSEAL);
        m.trap(7 + 48, 24, 5, 4, 3, 0);
        authority(m, 3, 5 + 16, UNSEAL);
        m.trap(7 + 48, 24, 5, 4, 3, 0);
        m = machine("unseal outside of the authority");
        m.op(27, 4, 1, 0, 0);
        m.sealed(4, 5);
        m.cap(3, 6, 4, UNSEAL);
        m.give(6, 5);
        m.op(22, 3, 3, 6, 0);
        m.trap(5 + 48, 24, 5, 4, 3, 0);
        m.op(28, 6, 4, 0, 0);
        m.trap(1 + 96, 24, 5, 6, 3, 0);
        authority(m, 3, 5, UNSEAL);
        m.op(24, 4, 4, 3, 0);
        m.dueReg(4, 0, ROOT_META, 1);
    }

    private void got(Machine m, int i, int want) {
        m.op(25, 3, 2, 0, i);
        m.dueNumber(3, want);
    }

    private void get() {
        Machine m = machine("get");
        m.cap(2, 400, 40, 0xC7);
        m.sealed(2, 11);
        got(m, 0, 400);
        got(m, 1, 40);
        got(m, 2, 0xC7);
        got(m, 3, 11);
        got(m, 4, 1);
        got(m, 5, 400);
        got(m, 6, m.reg(2, 1));
        got(m, 7, 0);
        got(m, -1, 0);
        got(m, 131071, 0);
        m = machine("get of odd ones");
        m.raw(2, -1, Machine.meta(0, 0, 31, 17, 1) | 1 << 31);
        got(m, 0, 1 << 31);
        got(m, 1, 0);
        got(m, 4, 0);
        got(m, 5, -1);
        got(m, 6, Machine.meta(0, 0, 31, 17, 1) | 1 << 31);
        m.raw(2, 0, Machine.meta(0, 0, 0, 100, 90));
        got(m, 0, -28);
        got(m, 1, -10);
        m.op(25, 2, 2, 0, 1);
        m.dueNumber(2, -10);
    }

    private void built(Machine m, int address, int meta, int tag) {
        m.raw(3, address, meta);
        m.op(26, 4, 2, 3, 0);
        m.dueReg(4, address, meta, tag);
    }

    private void build() {
        Machine m = machine("build");
        m.cap(2, 400, 40, LOAD | STORE);
        built(m, 400, Machine.meta(6, 0, 0, 16, 56), 1);
        built(m, 420, Machine.meta(2, 0, 0, 17, 55), 1);
        built(m, 500, Machine.meta(0, 0, 0, 20, 20), 1);
        built(m, 400, Machine.meta(6, 0, 0, 16, 56) | 1 << 31, 1);
        built(m, 400, Machine.meta(6, 0, 0, 15, 56), 0);
        built(m, 400, Machine.meta(6, 0, 0, 16, 57), 0);
        built(m, 400, Machine.meta(7, 0, 0, 16, 56), 0);
        built(m, 400, Machine.meta(6, 1, 0, 16, 56), 0);
        built(m, 400, Machine.meta(6, 5, 0, 16, 56), 0);
        built(m, 400, Machine.meta(6, 0, 0, 30, 29), 0);
        built(m, 528, Machine.meta(6, 0, 0, 16, 56), 0);
    }

    private void buildRefused() {
        Machine m = machine("build from what may not");
        m.cap(2, 400, 40, 7);
        m.op(27, 5, 2, 0, 0);
        m.sealed(5, 3);
        m.op(26, 4, 5, 2, 0);
        m.dueReg(4, 400, m.reg(2, 1), 0);
        m.op(26, 4, 2, 5, 0);
        m.dueReg(4, 400, m.reg(5, 1), 0);
        m.op(28, 6, 2, 0, 0);
        m.op(26, 4, 6, 2, 0);
        m.dueReg(4, 400, m.reg(2, 1), 0);
        m.op(26, 6, 2, 6, 0);
        m.dueReg(6, 400, m.reg(2, 1), 1);
        m.op(26, 2, 2, 1, 0);
        m.dueReg(2, 0, ROOT_META, 0);
    }

    private void copies() {
        Machine m = machine("copies");
        m.cap(2, 400, 40, 7);
        int meta = m.reg(2, 1);
        m.op(27, 3, 2, 1, 5);
        m.dueReg(3, 400, meta, 1);
        m.op(28, 3, 2, 1, 5);
        m.dueReg(3, 400, meta, 0);
        m.op(27, 4, 3, 0, 0);
        m.dueReg(4, 400, meta, 0);
        m.sealed(2, 8);
        m.op(27, 3, 2, 0, 0);
        m.dueReg(3, 400, meta | 8 << 8, 1);
        m.op(28, 2, 2, 0, 0);
        m.dueReg(2, 400, meta | 8 << 8, 0);
        m.op(27, 3, 0, 0, 0);
        m.dueReg(3, 0, 0, 0);
    }

    private void swap() {
        for (int i = 0; i < 3; i++) {
            Machine m = machine("swap " + i);
            m.cap(2, 400, 40, 7);
            int meta = m.reg(2, 1);
            m.op(27, 3, 1, 0, 0);
            m.op(29, 3, 2, 0, i);
            m.dueReg(3, 0, 0, 0);
            m.dueReg(9 + i, 400, meta, 1);
            m.op(29, 4, 0, 0, i);
            m.dueReg(4, 400, meta, 1);
            m.dueReg(9 + i, 400, meta, 1);
            m.give(5, 55);
            m.op(29, 5, 5, 0, i);
            m.dueReg(5, 400, meta, 1);
            m.dueReg(9 + i, 55, 0, 0);
            m.op(29, 0, 1, 0, i);
            m.dueReg(9 + i, 0, ROOT_META, 1);
            for (int r = 9; r < 12; r++) {
                if (r != 9 + i) {
                    m.dueReg(r, 0, 0, 0);
                }
            }
        }
        int[] noSpecial = {-1, 3, 131071, -131072};
        for (int i : noSpecial) {
            Machine m = machine("swap " + i);
            m.trap(8 + 128, 29, 2, 1, 0, i);
            m.dueReg(9, 0, 0, 0);
            m.dueReg(11, 0, 0, 0);
        }
    }

    private void withoutSystem() {
        int[][] operations = {{29, 0}, {29, 2}, {29, 3}, {31, 0}};
        for (int[] operation : operations) {
            Machine m = machine("without SYSTEM");
            m.cap(2, 512, 64, 255 - SYSTEM);
            m.flow(18, 0, 2, 0, 0);
            m.trap(3 + 128, operation[0], 3, 1, 0, operation[1]);
            m.dueReg(9, 0, 0, 0);
            m.dueReg(11, 0, 0, 0);
        }
        Machine m = machine("with no more than EXECUTE and SYSTEM");
        m.cap(2, 512, 64, EXECUTE | SYSTEM);
        m.flow(18, 0, 2, 0, 0);
        m.op(29, 3, 1, 0, 1);
        m.flow(31, 0, 0, 0, 0);
        m.dueReg(8, 0, ROOT_META, 1);
    }

    private void returning() {
        Machine m = machine("return");
        m.cap(2, 512, 64, 255);
        int meta = m.reg(2, 1);
        m.op(29, 0, 2, 0, 1);
        m.flow(31, 5, 6, 7, 9);
        m.dueReg(8, 512, meta, 1);
        m.dueReg(10, 512, meta, 1);
        m.entry(3);
        m.op(29, 0, 3, 0, 1);
        m.flow(31, 0, 0, 0, 0);
        m.dueReg(8, 516, meta, 1);
        m.dueReg(10, 516, meta | 1 << 8, 1);
        m.op(28, 4, 3, 0, 0);
        m.op(29, 0, 4, 0, 1);
        m.flow(31, 0, 0, 0, 0);
        m.dueReg(8, 516, meta, 0);
        m.trap(1 + 128, 0, 0, 0, 0, 0);
        m.sealed(2, 5);
        m.op(29, 0, 2, 0, 1);
        m.flow(31, 0, 0, 0, 0);
        m.dueReg(8, 512, meta | 5 << 8, 1);
        m.trap(2 + 128, 0, 0, 0, 0, 0);
    }

    /** A trap through a handler: the processor goes on there, and EPCC names where it was. */
    private void handlers() {
        Machine m = machine("handler");
        m.cap(2, 512, 64, EXECUTE | SYSTEM);
        int meta = m.reg(2, 1);
        m.op(29, 0, 2, 0, 0);
        int at = m.reg(8, 0);
        m.poke(at / 4, 30);
        m.due("run(1)", m.run(1), 1);
        m.dueReg(8, 512, meta, 1);
        m.dueReg(9, 512, meta, 1);
        m.dueReg(10, at, ROOT_META, 1);
        m.due("cause", m.cause(), 9);
        m.due("state", m.state(), 0);
        m.op(1, 3, 0, 0, 1);
        m.flow(31, 0, 0, 0, 0);
        m.dueReg(8, at, ROOT_META, 1);
        unusableHandler("handler without a tag", 0);
        unusableHandler("handler that is sealed", 1);
        unusableHandler("handler that is an entry", 2);
        unusableHandler("handler that lacks EXECUTE", 3);
    }

    private void unusableHandler(String name, int how) {
        Machine m = machine(name);
        m.cap(2, 512, 64, how == 3 ? 255 - EXECUTE : 255);
        if (how == 0) {
            m.op(28, 2, 2, 0, 0);
        } else if (how == 1) {
            m.sealed(2, 4);
        } else if (how == 2) {
            m.entry(2);
        }
        m.op(29, 0, 2, 0, 0);
        m.trap(9, 30, 0, 0, 0, 0);
    }

    private void pccTraps() {
        Machine m = machine("PCC behind memory");
        m.flow(15, 0, 0, 0, 255);
        m.due("PCC", m.reg(8, 0), 1020);
        m.op(1, 2, 0, 0, 1);
        m.due("PCC's tag behind memory", m.reg(8, 2), 1);
        m.trapAtPcc(5 + 128, 1024);
        m.flow(15, 0, 0, 0, 447);
        m.dueReg(8, 1788, ROOT_META, 1);
        m.trapAtPcc(5 + 128, 1788);
        m.flow(15, 0, 0, 0, 448);
        m.dueReg(8, 1792, ROOT_META, 0);
        m.trapAtPcc(1 + 128, 1792);
        m.flow(15, 0, 0, 0, -1);
        m.dueReg(8, -4, ROOT_META, 0);
        m.trapAtPcc(1 + 128, -4);
    }

    private void specialPcc() {
        Machine m = machine("PCC at no word");
        m.give(2, 514);
        m.op(22, 2, 1, 2, 0);
        m.flow(18, 0, 2, 0, 0);
        m.trapAtPcc(4 + 128, 514);
        m = machine("PCC without EXECUTE");
        m.cap(2, 512, 64, 255 - EXECUTE);
        m.op(29, 0, 2, 0, 1);
        m.flow(31, 0, 0, 0, 0);
        m.trapAtPcc(3 + 128, 512);
        m = machine("PCC behind its bounds");
        m.cap(2, 512, 6, 255);
        m.flow(18, 0, 2, 0, 0);
        m.op(1, 3, 0, 0, 1);
        m.trapAtPcc(5 + 128, 516);
        m = machine("PCC before its bounds");
        m.cap(2, 512, 8, 255);
        m.flow(18, 0, 2, 0, 0);
        m.flow(15, 0, 0, 0, -1);
        m.dueReg(8, 508, m.reg(2, 1), 1);
        m.trapAtPcc(5 + 128, 508);
    }
}
