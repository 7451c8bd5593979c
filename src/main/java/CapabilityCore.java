/**
 * A processor whose registers hold capabilities, with a tagged memory and traps.
 *
 * <p>No step makes an object: all capabilities are made in the constructor and written over.
 * What a step may trap with travels as a number, 0 for "no trap", else the CAUSE it leaves.
 */
public final class CapabilityCore {
    public static final int NONE = -1;

    private static final int WORDS = 256;
    private static final int GRANULES = 128;
    private static final int MEMORY_BYTES = 1024;
    private static final int MOST_STEPS = 100;
    private static final long UNSIGNED = 0xFFFFFFFFL;

    private static final int PLAIN_REGISTERS = 8;
    private static final int REGISTERS = 12;
    private static final int PCC = 8;
    private static final int HANDLER = 9;
    private static final int EPCC = 10;

    private static final int RUNNING = 0;
    private static final int HALTED = 1;
    private static final int STUCK = 2;

    private static final int EXECUTE = 1;
    private static final int LOAD = 2;
    private static final int STORE = 4;
    private static final int LOADCAP = 8;
    private static final int STORECAP = 16;
    private static final int SEAL = 32;
    private static final int UNSEAL = 64;
    private static final int SYSTEM = 128;

    private static final int NO_TRAP = 0;
    private static final int NO_TAG = 1;
    private static final int SEALED = 2;
    private static final int LACKS_PERMISSION = 3;
    private static final int NOT_ALIGNED = 4;
    private static final int OUT_OF_BOUNDS = 5;
    private static final int OUT_OF_MEMORY = 6;
    private static final int WRONG_TYPE = 7;
    private static final int NO_SUCH_SPECIAL = 8;
    private static final int CALLED = 9;

    private static final int LAST_COMPUTED = 10;
    private static final int ENTRY = 1;
    private static final int FIRST_SEAL_TYPE = 2;
    private static final int LAST_TYPE = 15;

    private final int[] words = new int[WORDS];
    private final boolean[] granuleTags = new boolean[GRANULES];
    private final Capability[] registers = new Capability[REGISTERS];
    private final Capability pcc;
    /** Where a step builds what goes into D, so that D may be S or T as well. */
    private final Capability made = new Capability();
    private int mode = RUNNING;
    private int lastCause = 0;
    private int stepCount = 0;
    private int trapCount = 0;

    public CapabilityCore() {
        for (int r = 0; r < REGISTERS; r++) {
            registers[r] = new Capability();
        }
        pcc = registers[PCC];
        registers[1].becomeRoot(0);
        pcc.becomeRoot(0);
    }

    public boolean poke(int word, int value) {
        if (!isWord(word)) {
            return false;
        }
        writeWord(word, value);
        return true;
    }

    public int peek(int word) {
        return isWord(word) ? words[word] : 0;
    }

    public boolean tagged(int granule) {
        return granule >= 0 && granule < GRANULES && granuleTags[granule];
    }

    public int run(int n) {
        if (n < 0 || n > MOST_STEPS) {
            return -1;
        }
        int done = 0;
        while (done < n && mode == RUNNING) {
            makeStep();
            done++;
        }
        return done;
    }

    public int state() {
        return mode;
    }

    public boolean wake(int word) {
        if (mode == RUNNING || !isWord(word)) {
            return false;
        }
        mode = RUNNING;
        pcc.becomeRoot(4 * word);
        return true;
    }

    public int cause() {
        return lastCause;
    }

    public int steps() {
        return stepCount;
    }

    public int traps() {
        return trapCount;
    }

    public int register(int r, int what) {
        if (!isRegister(r)) {
            return NONE;
        }
        switch (what) {
            case 0:
                return registers[r].address;
            case 1:
                return registers[r].meta;
            case 2:
                return registers[r].tag ? 1 : 0;
            default:
                return NONE;
        }
    }

    public long base(int r) {
        return isRegister(r) ? registers[r].lowerBound() : 0L;
    }

    public long top(int r) {
        return isRegister(r) ? registers[r].upperBound() : 0L;
    }

    public boolean give(int r, int number) {
        if (r < 1 || r >= PLAIN_REGISTERS) {
            return false;
        }
        writeNumber(r, number);
        return true;
    }

    private static boolean isWord(int word) {
        return word >= 0 && word < WORDS;
    }

    private static boolean isRegister(int r) {
        return r >= 0 && r < REGISTERS;
    }

    private void makeStep() {
        stepCount++;
        int trap = check(PCC, EXECUTE, 4, pcc.address);
        if (trap == NO_TRAP) {
            trap = execute(words[pcc.address >>> 2]);
        }
        if (trap != NO_TRAP) {
            enterTrap(trap);
        }
    }

    /** PCC is still as it was when the step began: no operation moves it and traps afterwards. */
    private void enterTrap(int trap) {
        trapCount++;
        lastCause = trap;
        registers[EPCC].copy(pcc);
        Capability handler = registers[HANDLER];
        if (handler.tag && !handler.isSealed() && handler.permits(EXECUTE)) {
            pcc.copy(handler);
        } else {
            mode = STUCK;
        }
    }

    private static int trapOf(int r, int cause) {
        return cause + 16 * r;
    }

    /** The bytes are always a power of two, and what passes is a place in memory. */
    private int check(int r, int permissions, int bytes, int address) {
        Capability c = registers[r];
        long x = address & UNSIGNED;
        if (!c.tag) {
            return trapOf(r, NO_TAG);
        }
        if (c.isSealed()) {
            return trapOf(r, SEALED);
        }
        if (!c.permits(permissions)) {
            return trapOf(r, LACKS_PERMISSION);
        }
        if ((address & (bytes - 1)) != 0) {
            return trapOf(r, NOT_ALIGNED);
        }
        if (x < c.lowerBound() || x + bytes > c.upperBound()) {
            return trapOf(r, OUT_OF_BOUNDS);
        }
        if (x + bytes > MEMORY_BYTES) {
            return trapOf(r, OUT_OF_MEMORY);
        }
        return NO_TRAP;
    }

    /** An operation that says itself where PCC goes returns; the others break, and go to the next word. */
    private int execute(int instruction) {
        int operation = instruction & 31;
        int d = (instruction >>> 5) & 7;
        int s = (instruction >>> 8) & 7;
        int t = (instruction >>> 11) & 7;
        int immediate = instruction >> 14;
        int trap = NO_TRAP;
        switch (operation) {
            case 0:
                mode = HALTED;
                return NO_TRAP;
            case 11:
                trap = load(d, s, immediate);
                break;
            case 12:
                trap = store(s, t, immediate);
                break;
            case 13:
                trap = loadCapability(d, s, immediate);
                break;
            case 14:
                trap = storeCapability(s, t, immediate);
                break;
            case 15:
                return branch(registers[s].address == registers[t].address ? immediate : 1);
            case 16:
                return branch(registers[s].address < registers[t].address ? immediate : 1);
            case 17:
                writeLink(d);
                return branch(immediate);
            case 18:
                return jump(d, s);
            case 23:
                trap = seal(d, s, t);
                break;
            case 24:
                trap = unseal(d, s, t);
                break;
            case 25:
                writeNumber(d, tell(registers[s], immediate));
                break;
            case 29:
                trap = swap(d, s, immediate);
                break;
            case 30:
                return trapOf(0, CALLED);
            case 31:
                return returnFromTrap();
            default:
                if (operation <= LAST_COMPUTED) {
                    writeNumber(d, compute(operation, registers[s].address, registers[t].address, immediate));
                } else {
                    derive(operation, d, registers[s], registers[t]);
                }
                break;
        }
        return trap == NO_TRAP ? branch(1) : trap;
    }

    private static int compute(int operation, int x, int y, int immediate) {
        switch (operation) {
            case 1:
                return x + immediate;
            case 2:
                return x + y;
            case 3:
                return x - y;
            case 4:
                return x & y;
            case 5:
                return x | y;
            case 6:
                return x ^ y;
            case 7:
                return x << (y & 31);
            case 8:
                return x >>> (y & 31);
            case 9:
                return x < y ? 1 : 0;
            default:
                return immediate << 14;
        }
    }

    /** The operations 19 to 22 and 26 to 28: a changed S (or T), and never a trap. */
    private void derive(int operation, int d, Capability source, Capability other) {
        made.copy(source);
        switch (operation) {
            case 19:
                narrow(source, other.address);
                break;
            case 20:
                made.keepPermissions(other.address);
                made.tag = source.tag && !source.isSealed();
                break;
            case 21:
                made.move(source.address + other.address);
                break;
            case 22:
                made.move(other.address);
                break;
            case 26:
                made.copy(other);
                made.tag = mayBuild(source, other);
                break;
            case 28:
                made.tag = false;
                break;
            default:
                break;
        }
        writeMade(d);
    }

    private void narrow(Capability source, int length) {
        long from = source.address & UNSIGNED;
        made.bound(from, from + (length & UNSIGNED));
        made.tag = source.tag && !source.isSealed()
            && made.lowerBound() >= source.lowerBound()
            && made.upperBound() <= source.upperBound();
    }

    private static boolean mayBuild(Capability source, Capability wanted) {
        return source.tag && !source.isSealed() && !wanted.isSealed()
            && wanted.lowerBound() >= source.lowerBound()
            && wanted.lowerBound() <= wanted.upperBound()
            && wanted.upperBound() <= source.upperBound()
            && source.permits(wanted.permissions());
    }

    private static int tell(Capability c, int what) {
        switch (what) {
            case 0:
                return (int) c.lowerBound();
            case 1:
                return (int) (c.upperBound() - c.lowerBound());
            case 2:
                return c.permissions();
            case 3:
                return c.type();
            case 4:
                return c.tag ? 1 : 0;
            case 5:
                return c.address;
            case 6:
                return c.meta;
            default:
                return 0;
        }
    }

    private int load(int d, int s, int immediate) {
        int x = registers[s].address + immediate;
        int trap = check(s, LOAD, 4, x);
        if (trap == NO_TRAP) {
            writeNumber(d, words[x >>> 2]);
        }
        return trap;
    }

    private int store(int s, int t, int immediate) {
        int x = registers[s].address + immediate;
        int trap = check(s, STORE, 4, x);
        if (trap == NO_TRAP) {
            writeWord(x >>> 2, registers[t].address);
        }
        return trap;
    }

    private int loadCapability(int d, int s, int immediate) {
        int x = registers[s].address + immediate;
        int trap = check(s, LOAD, 8, x);
        if (trap == NO_TRAP) {
            int granule = x >>> 3;
            made.address = words[2 * granule];
            made.meta = words[2 * granule + 1];
            made.tag = granuleTags[granule] && registers[s].permits(LOADCAP);
            writeMade(d);
        }
        return trap;
    }

    private int storeCapability(int s, int t, int immediate) {
        Capability stored = registers[t];
        int x = registers[s].address + immediate;
        int trap = check(s, stored.tag ? STORE | STORECAP : STORE, 8, x);
        if (trap == NO_TRAP) {
            int granule = x >>> 3;
            words[2 * granule] = stored.address;
            words[2 * granule + 1] = stored.meta;
            granuleTags[granule] = stored.tag;
        }
        return trap;
    }

    private int jump(int d, int s) {
        Capability target = registers[s];
        if (!target.tag) {
            return trapOf(s, NO_TAG);
        }
        if (target.isSealed() && target.type() != ENTRY) {
            return trapOf(s, SEALED);
        }
        if (!target.permits(EXECUTE)) {
            return trapOf(s, LACKS_PERMISSION);
        }
        // D may be S, so the target is kept before the link is written over it.
        made.copy(target);
        made.setType(0);
        writeLink(d);
        pcc.copy(made);
        return NO_TRAP;
    }

    private int seal(int d, int s, int t) {
        Capability source = registers[s];
        if (!source.tag) {
            return trapOf(s, NO_TAG);
        }
        if (source.isSealed()) {
            return trapOf(s, SEALED);
        }
        int type = registers[t].address;
        int trap = check(t, SEAL, 1, type);
        if (trap != NO_TRAP) {
            return trap;
        }
        if (type < FIRST_SEAL_TYPE || type > LAST_TYPE) {
            return trapOf(t, WRONG_TYPE);
        }
        writeWithType(d, source, type);
        return NO_TRAP;
    }

    private int unseal(int d, int s, int t) {
        Capability source = registers[s];
        if (!source.tag) {
            return trapOf(s, NO_TAG);
        }
        if (!source.isSealed() || source.type() == ENTRY) {
            return trapOf(s, SEALED);
        }
        int type = registers[t].address;
        int trap = check(t, UNSEAL, 1, type);
        if (trap != NO_TRAP) {
            return trap;
        }
        if (type != source.type()) {
            return trapOf(t, WRONG_TYPE);
        }
        writeWithType(d, source, 0);
        return NO_TRAP;
    }

    private int swap(int d, int s, int immediate) {
        if (!pcc.permits(SYSTEM)) {
            return trapOf(PCC, LACKS_PERMISSION);
        }
        if (immediate < 0 || immediate > 2) {
            return trapOf(PCC, NO_SUCH_SPECIAL);
        }
        Capability special = registers[HANDLER + immediate];
        made.copy(special);
        if (s != 0) {
            special.copy(registers[s]);
        }
        writeMade(d);
        return NO_TRAP;
    }

    private int returnFromTrap() {
        if (!pcc.permits(SYSTEM)) {
            return trapOf(PCC, LACKS_PERMISSION);
        }
        pcc.copy(registers[EPCC]);
        if (pcc.type() == ENTRY) {
            pcc.setType(0);
        }
        return NO_TRAP;
    }

    private int branch(int distance) {
        pcc.move(pcc.address + 4 * distance);
        return NO_TRAP;
    }

    private void writeLink(int d) {
        if (d != 0) {
            registers[d].copy(pcc);
            registers[d].move(pcc.address + 4);
            registers[d].setType(ENTRY);
        }
    }

    private void writeWithType(int d, Capability source, int type) {
        made.copy(source);
        made.setType(type);
        writeMade(d);
    }

    private void writeMade(int d) {
        if (d != 0) {
            registers[d].copy(made);
        }
    }

    private void writeNumber(int d, int number) {
        if (d != 0) {
            registers[d].becomeNumber(number);
        }
    }

    private void writeWord(int word, int value) {
        words[word] = value;
        granuleTags[word >> 1] = false;
    }

    /** A capability that is written over again and again; it begins as null. */
    private static final class Capability {
        private static final int ALL_PERMISSIONS = 255;
        private static final int TYPE_SHIFT = 8;
        private static final int TYPE_MASK = 15;
        private static final int E_SHIFT = 12;
        private static final int E_MASK = 31;
        private static final int B_SHIFT = 17;
        private static final int T_SHIFT = 24;
        private static final int BOUND_MASK = 127;
        private static final int BELOW_E = (1 << E_SHIFT) - 1;
        private static final int UNITS_BELOW_BASE = 16;
        private static final int MOST_UNITS = 96;

        private boolean tag = false;
        private int meta = 0;
        private int address = 0;

        void copy(Capability from) {
            tag = from.tag;
            meta = from.meta;
            address = from.address;
        }

        void becomeNumber(int number) {
            tag = false;
            meta = 0;
            address = number;
        }

        /** What register 1 is at first, with this address. */
        void becomeRoot(int newAddress) {
            tag = true;
            meta = ALL_PERMISSIONS;
            bound(0L, MEMORY_BYTES);
            address = newAddress;
        }

        int permissions() {
            return meta & ALL_PERMISSIONS;
        }

        boolean permits(int wanted) {
            return (permissions() & wanted) == wanted;
        }

        void keepPermissions(int kept) {
            meta &= kept | ~ALL_PERMISSIONS;
        }

        int type() {
            return (meta >>> TYPE_SHIFT) & TYPE_MASK;
        }

        boolean isSealed() {
            return type() != 0;
        }

        void setType(int type) {
            meta = (meta & ~(TYPE_MASK << TYPE_SHIFT)) | (type << TYPE_SHIFT);
        }

        void move(int newAddress) {
            long oldLower = lowerBound();
            long oldUpper = upperBound();
            address = newAddress;
            if (isSealed() || lowerBound() != oldLower || upperBound() != oldUpper) {
                tag = false;
            }
        }

        /** The two are less than 2 to the power of 32 apart, so an E of 26 is always enough. */
        void bound(long from, long to) {
            int e = 0;
            while (e < E_MASK && unitsUp(to, e) - (from >> e) > MOST_UNITS) {
                e++;
            }
            int b = (int) (from >> e) & BOUND_MASK;
            int t = (int) unitsUp(to, e) & BOUND_MASK;
            meta = (meta & BELOW_E) | (e << E_SHIFT) | (b << B_SHIFT) | (t << T_SHIFT);
        }

        private static long unitsUp(long number, int e) {
            return (number + (1L << e) - 1) >> e;
        }

        /**
         * Counted in units, the window's start is the place from A downwards that is B - 16 modulo
         * 128, and the base is always 16 above that.
         */
        long lowerBound() {
            int e = (meta >>> E_SHIFT) & E_MASK;
            int b = (meta >>> B_SHIFT) & BOUND_MASK;
            long a = (address & UNSIGNED) >> e;
            long start = a - ((a - b + UNITS_BELOW_BASE) & BOUND_MASK);
            return (start + UNITS_BELOW_BASE) << e;
        }

        /** Both bounds lie in the same window, so the top may be up to 16 units below the base. */
        long upperBound() {
            int e = (meta >>> E_SHIFT) & E_MASK;
            int b = (meta >>> B_SHIFT) & BOUND_MASK;
            int t = (meta >>> T_SHIFT) & BOUND_MASK;
            long units = ((t - b + UNITS_BELOW_BASE) & BOUND_MASK) - UNITS_BELOW_BASE;
            return lowerBound() + (units << e);
        }
    }
}
