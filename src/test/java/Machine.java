/** A new core with a small assembler; it keeps within the 512 calls that the document promises. */
final class Machine {
    static final int ALL = 255;
    private static final int MOST_CALLS = 512;

    final CapabilityCore core = new CapabilityCore();
    private final Tally tally;
    private final String name;
    private int calls = 0;

    Machine(Tally tally, String name) {
        this.tally = tally;
        this.name = name;
    }

    static int code(int operation, int d, int s, int t, int i) {
        return operation | d << 5 | s << 8 | t << 11 | i << 14;
    }

    static int meta(int permissions, int type, int e, int b, int t) {
        return permissions | type << 8 | e << 12 | b << 17 | t << 24;
    }

    void due(String what, long got, long want) {
        tally.due(name + ": " + what, got, want);
    }

    int reg(int r, int what) {
        called();
        return core.register(r, what);
    }

    void give(int r, int number) {
        called();
        core.give(r, number);
    }

    void poke(int word, int value) {
        called();
        core.poke(word, value);
    }

    int peek(int word) {
        called();
        return core.peek(word);
    }

    boolean tagged(int granule) {
        called();
        return core.tagged(granule);
    }

    int run(int n) {
        called();
        return core.run(n);
    }

    int state() {
        called();
        return core.state();
    }

    int cause() {
        called();
        return core.cause();
    }

    int traps() {
        called();
        return core.traps();
    }

    /** Writes the instruction where PCC points and makes one step. */
    private void step(int instruction) {
        poke(reg(8, 0) >>> 2, instruction);
        due("run(1)", run(1), 1);
    }

    /** A step that is no trap and goes on to the next word. */
    void op(int operation, int d, int s, int t, int i) {
        int at = reg(8, 0);
        flow(operation, d, s, t, i);
        due("PCC after operation " + operation, reg(8, 0), at + 4);
    }

    /** A step that is no trap. */
    void flow(int operation, int d, int s, int t, int i) {
        int before = traps();
        step(code(operation, d, s, t, i));
        due("traps in operation " + operation, traps(), before);
    }

    /** A step that is a trap, without a handler: nothing is done but the trap. Then it is woken. */
    void trap(int cause, int operation, int d, int s, int t, int i) {
        int at = reg(8, 0);
        int pccMeta = reg(8, 1);
        int dAddress = reg(d, 0);
        int dMeta = reg(d, 1);
        int dTag = reg(d, 2);
        int before = traps();
        String what = " in operation " + operation + " with trap " + cause;
        step(code(operation, d, s, t, i));
        due("cause" + what, cause(), cause);
        due("traps" + what, traps(), before + 1);
        due("state" + what, state(), 2);
        due("EPCC" + what, reg(10, 0), at);
        due("EPCC's meta" + what, reg(10, 1), pccMeta);
        due("PCC" + what, reg(8, 0), at);
        due("PCC's meta" + what, reg(8, 1), pccMeta);
        due("D's address" + what, reg(d, 0), dAddress);
        due("D's meta" + what, reg(d, 1), dMeta);
        due("D's tag" + what, reg(d, 2), dTag);
        wake((at >>> 2) + 1);
    }

    /** A trap of PCC itself, where there is no instruction to be had. Then it is woken at word 0. */
    void trapAtPcc(int cause, int address) {
        int meta = reg(8, 1);
        int tag = reg(8, 2);
        due("run(1) at " + address, run(1), 1);
        due("cause at " + address, cause(), cause);
        due("state at " + address, state(), 2);
        dueReg(8, address, meta, tag);
        dueReg(10, address, meta, tag);
        wake(0);
    }

    void wake(int word) {
        called();
        due("wake", core.wake(word) ? 1 : 0, 1);
    }

    /** Makes register r a tagged capability from the root in register 1; register 7 is written over. */
    void cap(int r, int base, int length, int permissions) {
        give(7, base);
        op(22, r, 1, 7, 0);
        give(7, length);
        op(19, r, r, 7, 0);
        give(7, permissions);
        op(20, r, r, 7, 0);
        due("tag of a new capability", reg(r, 2), 1);
    }

    /** Seals register r with a type; register 7 is written over. */
    void sealed(int r, int type) {
        give(7, type);
        op(22, 7, 1, 7, 0);
        op(23, r, r, 7, 0);
    }

    /** Makes register r an entry: a link that names the place behind the branch. */
    void entry(int r) {
        op(17, r, 0, 0, 1);
    }

    /** Any address and meta, without a tag, through the last granule of memory. */
    void raw(int r, int address, int meta) {
        poke(254, address);
        poke(255, meta);
        op(13, r, 1, 0, 1016);
    }

    void dueReg(int r, int address, int meta, int tag) {
        due("register(" + r + ", 0)", reg(r, 0), address);
        due("register(" + r + ", 1)", reg(r, 1), meta);
        due("register(" + r + ", 2)", reg(r, 2), tag);
    }

    void dueNumber(int r, int number) {
        dueReg(r, number, 0, 0);
    }

    void dueBounds(int r, long base, long top) {
        called();
        due("base(" + r + ")", core.base(r), base);
        called();
        due("top(" + r + ")", core.top(r), top);
    }

    private void called() {
        called(1);
    }

    /** Counts calls, also those that a test makes on the core itself. */
    void called(int more) {
        if (calls <= MOST_CALLS && calls + more > MOST_CALLS) {
            due("calls on one object of a test", calls + more, MOST_CALLS);
        }
        calls += more;
    }
}
