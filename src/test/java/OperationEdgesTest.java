import java.util.Arrays;

/** The sentences of the operations 0 to 31, each at its edges. */
public final class OperationEdgesTest {
    private static final int ROOT_META = Scene.ROOT_META;
    private static final int META_OF_2 = Scene.META_OF_2;
    private static final int MIN = Integer.MIN_VALUE;
    private static final int MAX = Integer.MAX_VALUE;
    private static final int ALL = Machine.ALL;
    private static final int LOAD = 2;
    private static final int STORE = 4;
    private static final int LOADCAP = 8;
    private static final int STORECAP = 16;
    private static final int AT = Scene.AT;

    private final Tally tally;

    private OperationEdgesTest(Tally tally) {
        this.tally = tally;
    }

    public static void main(String[] args) {
        Tally tally = new Tally("OperationEdgesTest");
        OperationEdgesTest test = new OperationEdgesTest(tally);
        test.halt();
        test.sums();
        test.bits();
        test.shifts();
        test.less();
        test.high();
        test.load();
        test.store();
        test.loadCapability();
        test.storeCapability();
        test.branchIfEqual();
        test.branchIfLess();
        test.branchWithLink();
        test.jump();
        test.jumpTraps();
        test.bounded();
        test.boundedBeyond();
        test.permissions();
        test.moved();
        test.seal();
        test.unseal();
        test.get();
        test.buildBounds();
        test.buildPermissions();
        test.buildFrom();
        test.copies();
        test.swap();
        test.swapRefused();
        test.call();
        test.returning();
        tally.end();
    }

    private Machine machine(String name) {
        return new Machine(tally, name);
    }

    private Effect step(String name, int... instructions) {
        return Effect.ofStep(tally, name, instructions);
    }

    private Effect trap(String name, int cause, int... instructions) {
        return Effect.ofTrap(tally, name, cause, instructions);
    }

    private static int code(int operation, int d, int s, int t, int i) {
        return Machine.code(operation, d, s, t, i);
    }

    /** An instruction that makes register r the number i. */
    private static int set(int r, int i) {
        return Machine.code(1, r, 0, 0, i);
    }

    private void halt() {
        tally.sentence("0 HALT: the processor is HALTED; PCC stays.");
        int[] instructions = {0, code(0, 3, 2, 1, 0), code(0, 7, 7, 7, -1), code(0, 2, 0, 0, 131071), MIN};
        for (int instruction : instructions) {
            new Effect(tally, "halt by " + instruction, () -> Scene.before(tally, instruction)).grows("steps()", 1)
                .becomes("state()", 1).inOneStep();
        }
        new Effect(tally, "halt in run(100)", () -> Scene.before(tally, 0)).grows("steps()", 1).becomes("state()", 1)
            .of(c -> c.run(100), 1);
        Machine m = machine("halt in the last word");
        m.flow(15, 0, 0, 0, 255);
        m.flow(0, 0, 0, 0, 0);
        m.dueReg(8, 1020, ROOT_META, 1);
    }

    private void computed(int operation, int x, int y, int i, int want) {
        Machine m = machine("operation " + operation + " of " + x + ", " + y + ", " + i);
        m.op(27, 4, 1, 0, 0);
        m.give(2, x);
        m.give(3, y);
        m.op(operation, 4, 2, 3, i);
        m.dueNumber(4, want);
        m.dueNumber(2, x);
        m.dueNumber(3, y);
        // D may be S or T.
        m.op(operation, 2, 2, 3, i);
        m.dueNumber(2, want);
        m.give(2, x);
        m.op(operation, 3, 2, 3, i);
        m.dueNumber(3, want);
    }

    private void sums() {
        tally.sentence("1 S.x + I     2 S.x + T.x     3 S.x - T.x");
        int[] is = {-131072, -131071, -1, 0, 1, 131070, 131071};
        for (int i : is) {
            computed(1, 0, 9, i, i);
            computed(1, 1000, 9, i, 1000 + i);
        }
        computed(1, MAX, 9, 1, MIN);
        computed(1, MIN, 9, -1, MAX);
        int[][] pairs = {{0, 0, 0, 0}, {1, 0, 1, 1}, {0, 1, 1, -1}, {7, 7, 14, 0}, {-1, 1, 0, -2}, {MAX, 1, MIN, MAX - 1},
            {MIN, -1, MAX, MIN + 1}, {MIN, 1, MIN + 1, MAX}, {MIN, MIN, 0, 0}, {MAX, MIN, -1, -1}, {0, MIN, MIN, MIN}};
        for (int[] p : pairs) {
            computed(2, p[0], p[1], 5, p[2]);
            computed(3, p[0], p[1], 5, p[3]);
        }
        // The addresses of capabilities count, and nothing else of them.
        step("sum of two capabilities", code(2, 3, 2, 4, 0)).number(3, 800).inOneStep();
        step("difference of two capabilities", code(3, 2, 2, 5, 0)).number(2, 368).inOneStep();
    }

    private void bits() {
        tally.sentence("4 and     5 or     6 exclusive or");
        int[][] pairs = {{0, 0, 0, 0, 0}, {0, 1, 0, 1, 1}, {1, 0, 0, 1, 1}, {1, 1, 1, 1, 0}, {12, 10, 8, 14, 6},
            {-1, 0, 0, -1, -1}, {-1, -1, -1, -1, 0}, {MIN, MIN, MIN, MIN, 0}, {MIN, MAX, 0, -1, -1},
            {MIN, 1, 0, MIN + 1, MIN + 1}, {-1, MAX, MAX, -1, MIN}};
        for (int[] p : pairs) {
            computed(4, p[0], p[1], 5, p[2]);
            computed(5, p[0], p[1], 5, p[3]);
            computed(6, p[0], p[1], 5, p[4]);
        }
    }

    private void shifts() {
        tally.sentence("7 S.x shifted left     8 right (with zeros) by the lowest five bits of T.x");
        int[][] cases = {{5, 0, 5, 5}, {5, 1, 10, 2}, {5, 31, MIN, 0}, {5, 32, 5, 5}, {5, 33, 10, 2}, {5, 63, MIN, 0},
            {5, 64, 5, 5}, {5, -1, MIN, 0}, {5, -31, 10, 2}, {5, -32, 5, 5}, {5, MIN, 5, 5}, {5, MAX, MIN, 0},
            {-1, 0, -1, -1}, {-1, 1, -2, MAX}, {-1, 30, -1 << 30, 3}, {-1, 31, MIN, 1}, {-1, 32, -1, -1},
            {MIN, 1, 0, 1 << 30}, {MIN, 31, 0, 1}, {MAX, 1, -2, MAX >> 1}, {0, 31, 0, 0}};
        for (int[] c : cases) {
            computed(7, c[0], c[1], 5, c[2]);
            computed(8, c[0], c[1], 5, c[3]);
        }
    }

    private void less() {
        tally.sentence("9 1 if S.x < T.x, else 0");
        int[][] cases = {{4, 5, 1}, {5, 5, 0}, {6, 5, 0}, {-1, 0, 1}, {0, 0, 0}, {0, -1, 0}, {MIN, MAX, 1}, {MAX, MIN, 0},
            {MIN, MIN, 0}, {MIN, MIN + 1, 1}, {MAX - 1, MAX, 1}, {MAX, MAX, 0}, {-2, -1, 1}, {-1, -2, 0}, {MIN, 0, 1}};
        for (int[] c : cases) {
            computed(9, c[0], c[1], 5, c[2]);
        }
    }

    private void high() {
        tally.sentence("10 I times 2 to the power of 14.");
        int[][] cases = {{0, 0}, {1, 16384}, {2, 32768}, {-1, -16384}, {131071, 0x7FFFC000}, {131070, 0x7FFF8000},
            {-131072, MIN}, {-131071, MIN + 16384}, {65536, 1 << 30}, {65535, (1 << 30) - 16384}};
        int[] others = {0, -1, MAX};
        for (int[] c : cases) {
            for (int x : others) {
                computed(10, x, x, c[0], c[1]);
            }
        }
    }

    private void load() {
        tally.sentence("11 LOAD: check s for LOAD, 4 bytes at S.x + I; D is the number there.");
        int[] values = {MIN, -1, 0, 1, MAX};
        for (int value : values) {
            new Effect(tally, "load of " + value, () -> {
                Machine m = Scene.before(tally, code(11, 4, 2, 0, 36));
                m.poke(109, value);
                return m;
            }).grows("steps()", 1).becomes("register(8, 0)", AT + 4).number(4, value).inOneStep();
        }
        // A granule with a tag: the word comes as a number, and the tag stays.
        step("load from granule 120", code(11, 2, 1, 0, 960)).number(2, 400).inOneStep();
        step("load with D being S", code(11, 1, 1, 0, 960)).number(1, 400).inOneStep();
        step("load from the first word", code(11, 3, 1, 0, 0)).number(3, 32).inOneStep();
        step("load from the last word", code(11, 3, 1, 0, 1020)).number(3, META_OF_2 | 5 << 8).inOneStep();
        trap("load before 400", 5 + 32, code(11, 3, 2, 0, -4)).inOneStep();
        trap("load at 440", 5 + 32, code(11, 3, 2, 0, 40)).inOneStep();
        trap("load at 438", 4 + 32, code(11, 3, 2, 0, 38)).inOneStep();
        addressOutOfBounds();
    }

    /** S.x itself may lie outside: S.x + I counts. */
    private void addressOutOfBounds() {
        int[] addresses = {384, 396, 440, 508};
        for (int address : addresses) {
            Machine m = machine("from " + address);
            m.poke(100, 5);
            m.poke(109, 6);
            m.cap(2, 400, 40, ALL);
            m.give(3, address);
            m.op(22, 2, 2, 3, 0);
            m.op(11, 3, 2, 0, 400 - address);
            m.dueNumber(3, 5);
            m.op(11, 3, 2, 0, 436 - address);
            m.dueNumber(3, 6);
            m.trap(5 + 32, 11, 3, 2, 0, 0);
            m.trap(5 + 32, 11, 3, 2, 0, 396 - address);
            m.trap(5 + 32, 11, 3, 2, 0, 440 - address);
        }
        // A unit of 1024 lets the address go far; I reaches back with all its bits.
        Machine m = machine("from far away");
        m.raw(2, 114684, Machine.meta(ALL, 0, 10, 0, 1));
        m.op(26, 2, 1, 2, 0);
        m.due("tag", m.reg(2, 2), 1);
        m.poke(255, 9);
        m.op(11, 3, 2, 0, 1020 - 114684);
        m.dueNumber(3, 9);
        m.trap(5 + 32, 11, 3, 2, 0, 1024 - 114684);
        m.trap(5 + 32, 11, 3, 2, 0, -4 - 114684);
        m.trap(5 + 32, 11, 3, 2, 0, -131072);
        m.trap(5 + 32, 11, 3, 2, 0, 131068);
    }

    private void store() {
        tally.sentence("12 STORE: check s for STORE, 4 bytes at S.x + I; the word there becomes T.x, its granule has no"
            + " tag.");
        int[][] places = {{0, 0}, {4, 0}, {8, 1}, {956, 119}, {960, 120}, {964, 120}, {968, 121}, {972, 121}, {976, 122},
            {1012, 126}, {1016, 127}, {1020, 127}};
        for (int[] place : places) {
            step("store at " + place[0], code(12, 4, 1, 7, place[0])).becomes("peek(" + place[0] / 4 + ")", -3)
                .becomes("tagged(" + place[1] + ")", 0).inOneStep();
        }
        step("store of a capability's address", code(12, 0, 1, 2, 968)).becomes("peek(242)", 400)
            .becomes("tagged(121)", 0).inOneStep();
        step("store of what is there", code(12, 0, 1, 2, 960)).becomes("tagged(120)", 0).inOneStep();
        step("store of null", code(12, 0, 1, 0, 960)).becomes("peek(240)", 0).becomes("tagged(120)", 0).inOneStep();
        step("store at the first word of 400 .. 440", code(12, 0, 2, 3, 0)).becomes("peek(100)", 77).inOneStep();
        step("store at the last word of 400 .. 440", code(12, 0, 2, 3, 36)).becomes("peek(109)", 77).inOneStep();
        trap("store before 400", 5 + 32, code(12, 0, 2, 3, -4)).inOneStep();
        trap("store at 440", 5 + 32, code(12, 0, 2, 3, 40)).inOneStep();
        // The word after this one, which is then the next instruction.
        step("store over the next instruction", code(12, 0, 1, 0, AT + 4)).becomes("peek(134)", 0).becomes("state()", 1)
            .grows("steps()", 2).of(c -> c.run(2), 2);
    }

    private void loadCapability() {
        tally.sentence("13 LOAD CAPABILITY: check s for LOAD, 8 bytes at S.x + I; D has the lower word of that granule as"
            + " address, the other one as meta, and its tag, but none if S lacks LOADCAP.");
        step("from granule 0", code(13, 3, 1, 0, 0)).register(3, 32, ROOT_META | 1 << 8, 1, 0, 1024).inOneStep();
        step("from granule 120", code(13, 3, 1, 0, 960)).register(3, 400, META_OF_2, 1, 400, 440).inOneStep();
        step("from granule 127", code(13, 3, 1, 0, 1016)).register(3, 400, META_OF_2 | 5 << 8, 1, 400, 440).inOneStep();
        step("with D being S", code(13, 1, 1, 0, 960)).register(1, 400, META_OF_2, 1, 400, 440).inOneStep();
        trap("behind granule 127", 5 + 16, code(13, 3, 1, 0, 1024)).inOneStep();
        trap("before granule 0", 5 + 16, code(13, 3, 1, 0, -8)).inOneStep();
        int[] words = {956, 964, 1012, 1020};
        for (int x : words) {
            trap("at " + x, 4 + 16, code(13, 3, 1, 0, x)).inOneStep();
        }
        int[] sets = {LOAD, LOAD | LOADCAP, ALL - LOADCAP, ALL};
        for (int set : sets) {
            step("with the permissions " + set, set(7, set), code(20, 6, 1, 7, 0), code(13, 3, 6, 0, 960))
                .register(3, 400, META_OF_2, (set & LOADCAP) == 0 ? 0 : 1, 400, 440).inOneStep();
        }
        // Without a tag any two words come, and all bits of them.
        Machine m = machine("any two words");
        m.poke(254, MIN);
        m.poke(255, -1);
        m.op(13, 3, 1, 0, 1016);
        m.dueReg(3, MIN, -1, 0);
    }

    private void storeCapability() {
        tally.sentence("14 STORE CAPABILITY: check s for STORE (and STORECAP, if T has a tag), 8 bytes at S.x + I; that"
            + " granule gets T's address as lower word, its meta as the other one, and its tag.");
        int[] granules = {0, 1, 119, 120, 126, 127};
        for (int g : granules) {
            stored("register 2", code(14, 3, 1, 2, 8 * g), g, 400, META_OF_2, 1);
            stored("register 6", code(14, 3, 1, 6, 8 * g), g, 400, META_OF_2, 0);
            stored("null", code(14, 3, 1, 0, 8 * g), g, 0, 0, 0);
        }
        stored("a number", code(14, 3, 1, 7, 960), 120, -3, 0, 0);
        stored("S itself", code(14, 3, 1, 1, 960), 120, 0, ROOT_META, 1);
        stored("a sealed one", code(14, 3, 1, 4, 800), 100, 400, META_OF_2 | 5 << 8, 1);
        stored("an entry", code(14, 3, 1, 5, 800), 100, 32, ROOT_META | 1 << 8, 1);
        trap("behind granule 127", 5 + 16, code(14, 3, 1, 2, 1024)).inOneStep();
        trap("before granule 0", 5 + 16, code(14, 3, 1, 2, -8)).inOneStep();
        trap("at 964", 4 + 16, code(14, 3, 1, 2, 964)).inOneStep();
        int[] sets = {STORE, STORECAP, STORE | STORECAP, ALL - STORECAP, ALL - STORE};
        for (int set : sets) {
            storedWith(set, 2, (set & STORE) != 0 && (set & STORECAP) != 0, 1);
            storedWith(set, 5, (set & STORE) != 0 && (set & STORECAP) != 0, 1);
            storedWith(set, 0, (set & STORE) != 0, 0);
        }
        step("a root without STORECAP stores one without a tag", set(7, ALL - STORECAP), code(20, 7, 1, 7, 0),
            code(14, 3, 7, 6, 960)).becomes("tagged(120)", 0).inOneStep();
    }

    private void stored(String name, int instruction, int g, int lower, int other, int tag) {
        step("store of " + name + " in granule " + g, instruction).becomes("peek(" + 2 * g + ")", lower)
            .becomes("peek(" + (2 * g + 1) + ")", other).becomes("tagged(" + g + ")", tag).inOneStep();
    }

    private void storedWith(int set, int t, boolean done, int tag) {
        String name = "store of " + t + " with the permissions " + set;
        int[] instructions = {set(7, set), code(20, 6, 1, 7, 0), code(14, 3, 6, t, 800)};
        if (done) {
            int address = t == 2 ? 400 : t == 5 ? 32 : 0;
            int meta = t == 2 ? META_OF_2 : t == 5 ? ROOT_META | 1 << 8 : 0;
            step(name, instructions).becomes("peek(200)", address).becomes("peek(201)", meta)
                .becomes("tagged(100)", tag).inOneStep();
        } else {
            trap(name, 3 + 96, instructions).inOneStep();
        }
    }

    private void branched(int operation, int x, int y, boolean taken) {
        Machine m = machine("branch by " + operation + " on " + x + " and " + y);
        m.give(2, x);
        m.give(3, y);
        m.flow(operation, 4, 2, 3, 9);
        m.dueReg(8, taken ? 36 : 4, ROOT_META, 1);
        m.dueReg(4, 0, 0, 0);
    }

    private void branchIfEqual() {
        tally.sentence("15 branch if S.x = T.x.");
        int[][] cases = {{5, 4, 0}, {5, 5, 1}, {5, 6, 0}, {0, 0, 1}, {0, -1, 0}, {0, 1, 0}, {MIN, MIN, 1}, {MIN, MAX, 0},
            {MIN, 0, 0}, {-1, -1, 1}, {-1, MAX, 0}, {65536, 0, 0}};
        for (int[] c : cases) {
            branched(15, c[0], c[1], c[2] == 1);
        }
        // Tags and metas are not compared.
        step("branch on 2 and 6", code(15, 3, 2, 6, 2)).becomes("register(8, 0)", AT + 8).inOneStep();
        step("branch on 2 and 4", code(15, 3, 2, 4, -1)).becomes("register(8, 0)", AT - 4).inOneStep();
        step("branch on 0 and 1", code(15, 3, 0, 1, 0)).becomes("register(8, 0)", AT).inOneStep();
    }

    private void branchIfLess() {
        tally.sentence("16 branch if S.x < T.x.");
        int[][] cases = {{5, 4, 0}, {5, 5, 0}, {5, 6, 1}, {-1, 0, 1}, {0, -1, 0}, {MIN, MAX, 1}, {MAX, MIN, 0},
            {MIN, MIN, 0}, {MIN, MIN + 1, 1}, {MAX - 1, MAX, 1}, {MAX, MAX, 0}, {-2, -1, 1}, {-1, -2, 0}};
        for (int[] c : cases) {
            branched(16, c[0], c[1], c[2] == 1);
        }
        step("branch on 5 and 2", code(16, 3, 5, 2, 2)).becomes("register(8, 0)", AT + 8).inOneStep();
        step("branch on 2 and 4", code(16, 3, 2, 4, 2)).inOneStep();
    }

    private void branchWithLink() {
        tally.sentence("17 D is the link; branch.");
        int meta = Scene.PCC_META | 1 << 8;
        int[] ways = {-1, 0, 1, 2};
        for (int i : ways) {
            for (int d = 1; d < 8; d++) {
                step("into " + d + " by " + i, code(17, d, 3, 7, i)).becomes("register(8, 0)", AT + 4 * i)
                    .register(d, AT + 4, meta, 1, 512, 544).inOneStep();
            }
        }
        // PCC leaves its window, the link does not.
        step("far away", code(17, 3, 0, 0, 23)).register(8, 624, Scene.PCC_META, 0, 640, 672)
            .register(3, AT + 4, meta, 1, 512, 544).inOneStep();
    }

    private void jump() {
        tally.sentence("18 JUMP: ... D is the link, and PCC becomes S (as it was) with type 0.");
        int meta = Scene.PCC_META | 1 << 8;
        step("to a root", code(18, 3, 1, 4, 99)).register(3, AT + 4, meta, 1, 512, 544)
            .register(8, 0, ROOT_META, 1, 0, 1024).inOneStep();
        step("to an entry", code(18, 3, 5, 4, 99)).register(3, AT + 4, meta, 1, 512, 544)
            .register(8, 32, ROOT_META, 1, 0, 1024).inOneStep();
        step("to an entry that is D", code(18, 5, 5, 0, 0)).register(5, AT + 4, meta, 1, 512, 544)
            .register(8, 32, ROOT_META, 1, 0, 1024).inOneStep();
        step("to a root that is D", code(18, 1, 1, 0, 0)).register(1, AT + 4, meta, 1, 512, 544)
            .register(8, 0, ROOT_META, 1, 0, 1024).inOneStep();
        step("without a link", code(18, 0, 2, 0, 0)).register(8, 400, META_OF_2, 1, 400, 440).inOneStep();
        // Where S points is not looked at before the next step.
        int[] places = {1024, 1791, 533};
        for (int x : places) {
            step("to " + x, set(7, x), code(22, 6, 1, 7, 0), code(18, 0, 6, 0, 0)).register(8, x, ROOT_META, 1, 0, 1024)
                .inOneStep();
        }
        step("with EXECUTE alone", set(7, 1), code(20, 6, 1, 7, 0), code(18, 0, 6, 0, 0))
            .register(8, 0, ROOT_META & ~ALL | 1, 1, 0, 1024).inOneStep();
    }

    private void jumpTraps() {
        tally.sentence("18 JUMP: trap s with 1 if S has no tag, 2 if it is sealed and no entry, 3 if it lacks EXECUTE");
        trap("to null", 1, code(18, 3, 0, 0, 0)).inOneStep();
        trap("to a number", 1 + 48, code(18, 3, 3, 0, 0)).inOneStep();
        trap("to one without a tag", 1 + 96, code(18, 3, 6, 0, 0)).inOneStep();
        trap("to an entry without a tag", 1 + 96, code(28, 6, 5, 0, 0), code(18, 3, 6, 0, 0)).inOneStep();
        trap("to a sealed one without a tag", 1 + 96, code(28, 6, 4, 0, 0), code(18, 3, 6, 0, 0)).inOneStep();
        trap("to a sealed one", 2 + 64, code(18, 3, 4, 0, 0)).inOneStep();
        int noExecute = code(20, 6, 1, 7, 0);
        trap("without EXECUTE", 3 + 96, set(7, ALL - 1), noExecute, code(18, 3, 6, 0, 0)).inOneStep();
        trap("without EXECUTE, D being S", 3 + 96, set(7, ALL - 1), noExecute, code(18, 6, 6, 0, 0)).inOneStep();
        int[] types = {2, 3, 14, 15};
        for (int type : types) {
            trap("sealed, without EXECUTE", 2 + 96, set(7, ALL - 1), noExecute, set(7, type), code(22, 7, 1, 7, 0),
                code(23, 6, 6, 7, 0), code(18, 3, 6, 0, 0)).inOneStep();
        }
        trap("without a tag, without EXECUTE", 1 + 96, set(7, ALL - 1), noExecute, code(28, 6, 6, 0, 0),
            code(18, 3, 6, 0, 0)).inOneStep();
    }

    private void bounded() {
        tally.sentence("19 D is S, bounded from S.x (unsigned) to S.x + T.x (both unsigned)");
        int[][] lengths = {{0, 16}, {1, 17}, {39, 55}, {40, 56}};
        for (int[] c : lengths) {
            step("for " + c[0], set(3, c[0]), code(19, 7, 2, 3, 0))
                .register(7, 400, ALL | 16 << 17 | c[1] << 24, 1, 400, 400 + c[0]).inOneStep();
            step("for " + c[0] + " into S", set(3, c[0]), code(19, 2, 2, 3, 0))
                .register(2, 400, ALL | 16 << 17 | c[1] << 24, 1, 400, 400 + c[0]).inOneStep();
            step("for " + c[0] + " into T", set(3, c[0]), code(19, 3, 2, 3, 0))
                .register(3, 400, ALL | 16 << 17 | c[1] << 24, 1, 400, 400 + c[0]).inOneStep();
        }
        step("for T's address alone", code(19, 7, 1, 2, 0))
            .register(7, 0, Machine.meta(ALL, 0, 3, 0, 50), 1, 0, 400).inOneStep();
    }

    private void narrowed(int base, int length, int at, int by, int tag, long newBase, long newTop) {
        Machine m = machine("bounds " + base + " for " + length + ", bounded at " + at + " for " + by);
        m.cap(2, base, length, ALL);
        m.give(3, at);
        m.op(22, 2, 2, 3, 0);
        m.due("tag before", m.reg(2, 2), 1);
        m.give(3, by);
        m.op(19, 4, 2, 3, 0);
        m.due("address", m.reg(4, 0), at);
        m.due("tag", m.reg(4, 2), tag);
        m.dueBounds(4, newBase, newTop);
    }

    private void boundedBeyond() {
        tally.sentence("19 ... without a tag if S is sealed or the new base is below that of S or the new top above that"
            + " of S.");
        narrowed(400, 40, 399, 41, 0, 399, 440);
        narrowed(400, 40, 400, 40, 1, 400, 440);
        narrowed(400, 40, 401, 39, 1, 401, 440);
        narrowed(400, 40, 401, 40, 0, 401, 441);
        narrowed(400, 40, 400, 41, 0, 400, 441);
        narrowed(400, 40, 399, 0, 0, 399, 399);
        narrowed(400, 40, 440, 0, 1, 440, 440);
        narrowed(400, 40, 440, 1, 0, 440, 441);
        narrowed(400, 40, 441, 0, 0, 441, 441);
        narrowed(400, 40, 400, -1, 0, 0, 65L << 26);
        narrowed(400, 0, 400, 0, 1, 400, 400);
        narrowed(400, 0, 400, 1, 0, 400, 401);
        // It is the rounded bounds that count.
        narrowed(400, 192, 401, 96, 1, 401, 497);
        narrowed(400, 192, 401, 97, 1, 400, 498);
        narrowed(400, 192, 402, 190, 1, 402, 592);
        narrowed(400, 192, 401, 191, 1, 400, 592);
        narrowed(400, 192, 401, 192, 0, 400, 596);
        narrowed(401, 96, 401, 96, 1, 401, 497);
        narrowed(401, 96, 401, 97, 0, 400, 498);
        narrowed(0, 1024, 1, 1023, 1, 0, 1024);
        narrowed(0, 1024, 8, 1016, 1, 0, 1024);
        narrowed(0, 1024, 1, 1024, 0, 0, 1040);
        step("of a sealed one", set(3, 8), code(19, 7, 4, 3, 0))
            .register(7, 400, ALL | 5 << 8 | 16 << 17 | 24 << 24, 0, 400, 408).inOneStep();
        step("of an entry", set(3, 8), code(19, 7, 5, 3, 0))
            .register(7, 32, ALL | 1 << 8 | 32 << 17 | 40 << 24, 0, 32, 40).inOneStep();
        step("of one without a tag", set(3, 8), code(19, 7, 6, 3, 0))
            .register(7, 400, ALL | 16 << 17 | 24 << 24, 0, 400, 408).inOneStep();
        step("of null", set(3, 8), code(19, 7, 0, 3, 0)).register(7, 0, 8 << 24, 0, 0, 8).inOneStep();
    }

    private void permissions() {
        tally.sentence("20 D is S with just those permissions that are also in T.x, without a tag if S is sealed.");
        int[][] masks = {{0, 0}, {1, 1}, {128, 128}, {255, 255}, {256, 0}, {257, 1}, {-1, 255}, {-256, 0}, {-2, 254},
            {MIN, 0}, {MAX, 255}, {0x5A, 0x5A}, {0xFFF, 255}};
        for (int[] c : masks) {
            Machine m = machine("permissions in " + c[0]);
            m.give(3, c[0]);
            m.op(20, 4, 1, 3, 0);
            m.dueReg(4, 0, ROOT_META & ~ALL | c[1], 1);
            m.give(5, 0x35);
            m.op(20, 4, 1, 5, 0);
            m.op(20, 4, 4, 3, 0);
            m.dueReg(4, 0, ROOT_META & ~ALL | c[1] & 0x35, 1);
        }
        step("of a sealed one", code(20, 2, 4, 3, 0)).register(2, 400, META_OF_2 & ~ALL | 77 | 5 << 8, 0, 400, 440)
            .inOneStep();
        step("of a sealed one by -3", code(20, 3, 4, 7, 0)).register(3, 400, META_OF_2 & ~2 | 5 << 8, 0, 400, 440)
            .inOneStep();
        step("of a sealed one by all that it has", set(3, ALL), code(20, 3, 4, 3, 0))
            .register(3, 400, META_OF_2 | 5 << 8, 0, 400, 440).inOneStep();
        step("of an entry", code(20, 2, 5, 3, 0)).register(2, 32, ROOT_META & ~ALL | 77 | 1 << 8, 0, 0, 1024)
            .inOneStep();
        step("with D being T", code(20, 3, 2, 3, 0)).register(3, 400, META_OF_2 & ~ALL | 77, 1, 400, 440).inOneStep();
        step("of a number", code(20, 4, 3, 3, 0)).number(4, 77).inOneStep();
        Machine m = machine("all bits of a meta");
        m.raw(2, 5, -1);
        m.op(20, 3, 2, 0, 0);
        m.dueReg(3, 5, -256, 0);
    }

    private void moved() {
        tally.sentence("21 D is S moved to S.x + T.x.     22 D is S moved to T.x.");
        step("21 by 0", code(21, 3, 2, 0, 0)).register(3, 400, META_OF_2, 1, 400, 440).inOneStep();
        step("21 by 77", code(21, 3, 2, 3, 0)).register(3, 477, META_OF_2, 1, 400, 440).inOneStep();
        step("21 by -3", code(21, 2, 2, 7, 0)).register(2, 397, META_OF_2, 1, 400, 440).inOneStep();
        step("21 by 111", set(3, 111), code(21, 3, 2, 3, 0)).register(3, 511, META_OF_2, 1, 400, 440).inOneStep();
        step("21 by 112", set(3, 112), code(21, 3, 2, 3, 0)).register(3, 512, META_OF_2, 0, 528, 568).inOneStep();
        step("21 by -16", set(3, -16), code(21, 3, 2, 3, 0)).register(3, 384, META_OF_2, 1, 400, 440).inOneStep();
        step("21 by -17", set(3, -17), code(21, 3, 2, 3, 0)).register(3, 383, META_OF_2, 0, 272, 312).inOneStep();
        step("21 of a number", code(21, 2, 7, 3, 0)).number(2, 74).inOneStep();
        step("21 of a sealed one by 0", code(21, 3, 4, 0, 0)).register(3, 400, META_OF_2 | 5 << 8, 0, 400, 440)
            .inOneStep();
        step("22 to 511", set(3, 511), code(22, 3, 2, 3, 0)).register(3, 511, META_OF_2, 1, 400, 440).inOneStep();
        step("22 to 512", set(3, 512), code(22, 3, 2, 3, 0)).register(3, 512, META_OF_2, 0, 528, 568).inOneStep();
        step("22 to 384", set(3, 384), code(22, 3, 2, 3, 0)).register(3, 384, META_OF_2, 1, 400, 440).inOneStep();
        step("22 to 383", set(3, 383), code(22, 2, 2, 3, 0)).register(2, 383, META_OF_2, 0, 272, 312).inOneStep();
        step("22 to null's 0", code(22, 3, 2, 0, 0)).register(3, 0, META_OF_2, 0, 16, 56).inOneStep();
        step("22 of a root to -3", code(22, 3, 1, 7, 0)).register(3, -3, ROOT_META, 0, 1L << 32, (1L << 32) + 1024)
            .inOneStep();
        step("22 of one without a tag", code(22, 3, 6, 3, 0)).register(3, 77, META_OF_2, 0, 16, 56).inOneStep();
        step("22 of an entry to where it is", code(22, 3, 5, 5, 0)).register(3, 32, ROOT_META | 1 << 8, 0, 0, 1024)
            .inOneStep();
    }

    private void seal() {
        tally.sentence("23 SEAL: ... trap t with 7 if T.x is not 2 .. 15; D is S with type T.x.");
        for (int type = 0; type <= 17; type++) {
            int[] instructions = {set(7, type), code(22, 6, 1, 7, 0), code(23, 3, 2, 6, 0)};
            if (type >= 2 && type <= 15) {
                step("type " + type, instructions).register(3, 400, META_OF_2 | type << 8, 1, 400, 440).inOneStep();
            } else {
                trap("type " + type, 7 + 96, instructions).inOneStep();
            }
        }
        int[][] places = {{18, 7}, {256, 7}, {258, 7}, {1023, 7}, {1024, 5}, {1026, 5}};
        for (int[] c : places) {
            trap("type " + c[0], c[1] + 96, set(7, c[0]), code(22, 6, 1, 7, 0), code(23, 3, 2, 6, 0)).inOneStep();
        }
        int two = set(7, 2);
        step("with D being S", two, code(22, 6, 1, 7, 0), code(23, 2, 2, 6, 0))
            .register(2, 400, META_OF_2 | 2 << 8, 1, 400, 440).inOneStep();
        step("with D being T", two, code(22, 6, 1, 7, 0), code(23, 6, 2, 6, 0))
            .register(6, 400, META_OF_2 | 2 << 8, 1, 400, 440).inOneStep();
        step("with S being T", two, code(22, 6, 1, 7, 0), code(23, 6, 6, 6, 0))
            .register(6, 2, ROOT_META | 2 << 8, 1, 0, 1024).inOneStep();
    }

    private void unseal() {
        tally.sentence("24 UNSEAL: ... trap t with 7 if T.x is not S's type; D is S with type 0.");
        int[] types = {0, 1, 2, 4, 5, 6, 15, 16, 21, 256 + 5};
        for (int type : types) {
            int[] instructions = {set(7, type), code(22, 6, 1, 7, 0), code(24, 3, 4, 6, 0)};
            if (type == 5) {
                step("type 5", instructions).register(3, 400, META_OF_2, 1, 400, 440).inOneStep();
            } else {
                trap("type " + type, 7 + 96, instructions).inOneStep();
            }
        }
        int[] edges = {2, 15};
        for (int type : edges) {
            step("of type " + type, set(7, type), code(22, 6, 1, 7, 0), code(23, 3, 2, 6, 0), code(24, 3, 3, 6, 0))
                .register(3, 400, META_OF_2, 1, 400, 440).inOneStep();
        }
        step("with D being T", set(7, 5), code(22, 6, 1, 7, 0), code(24, 6, 4, 6, 0))
            .register(6, 400, META_OF_2, 1, 400, 440).inOneStep();
    }

    private void got(String name, int i, int want, int... before) {
        int[] instructions = Arrays.copyOf(before, before.length + 1);
        instructions[before.length] = code(25, 3, 6, 5, i);
        step("get " + i + " of " + name, instructions).number(3, want).inOneStep();
    }

    private void get() {
        tally.sentence("25 GET: D is the number that I tells of S: 0 base, 1 length, 2 permissions, 3 type,"
            + " 4 tag (1 or 0), 5 address, 6 meta (the lowest 32 bits of each), else 0.");
        int sealed = code(27, 6, 4, 0, 0);
        int[] of4 = {400, 40, 255, 5, 1, 400, META_OF_2 | 5 << 8};
        int[] of6 = {400, 40, 255, 0, 0, 400, META_OF_2};
        for (int i = 0; i < 7; i++) {
            got("a sealed one", i, of4[i], sealed);
            got("one without a tag", i, of6[i]);
            got("null", i, 0, code(27, 6, 0, 0, 0));
        }
        int[] others = {-1, 7, 8, -2, 256, 131071, -131072, 65536 + 5};
        for (int i : others) {
            got("a sealed one", i, 0, sealed);
        }
        step("get with D being S", code(25, 4, 4, 0, 3)).number(4, 5).inOneStep();
        lowestBits(0, Machine.meta(0, 0, 0, 17, 17), -111, 0);
        lowestBits(-1, 0, 0, 0);
        lowestBits(-1, Machine.meta(0, 0, 0, 5, 4), 5, -1);
        lowestBits(-1, Machine.meta(0, 0, 31, 16, 127), 0, MIN);
        lowestBits(0, Machine.meta(0, 0, 31, 17, 17), MIN, 0);
        lowestBits(0, Machine.meta(0, 0, 31, 18, 18), 0, 0);
        lowestBits(0, Machine.meta(0, 0, 26, 0, 64), 0, 0);
        lowestBits(0, Machine.meta(0, 0, 26, 0, 65), 0, 1 << 26);
    }

    private void lowestBits(int address, int meta, int base, int length) {
        Machine m = machine("get of " + meta + " at " + address);
        m.raw(2, address, meta);
        m.op(25, 3, 2, 0, 0);
        m.dueNumber(3, base);
        m.op(25, 3, 2, 0, 1);
        m.dueNumber(3, length);
        m.op(25, 3, 2, 0, 5);
        m.dueNumber(3, address);
        m.op(25, 3, 2, 0, 6);
        m.dueNumber(3, meta);
    }

    /** From the bounds 400 .. 440 with the permissions 6. */
    private void built(int address, int meta, int tag) {
        Machine m = machine("build of " + meta + " at " + address);
        m.cap(2, 400, 40, LOAD | STORE);
        m.raw(3, address, meta);
        m.op(26, 4, 2, 3, 0);
        m.dueReg(4, address, meta, tag);
        m.op(26, 3, 2, 3, 0);
        m.dueReg(3, address, meta, tag);
    }

    private void buildBounds() {
        tally.sentence("26 BUILD: ... T's base is not below that of S, T's base not above T's top, that not above the top"
            + " of S");
        int[][] cases = {{15, 56, 0}, {16, 56, 1}, {17, 56, 1}, {16, 55, 1}, {16, 57, 0}, {16, 16, 1}, {56, 56, 1},
            {55, 56, 1}, {57, 57, 0}, {15, 15, 0}, {57, 56, 0}, {30, 29, 0}, {30, 30, 1}, {30, 31, 1}, {56, 55, 0},
            {32, 16, 0}, {56, 40, 0}};
        for (int[] c : cases) {
            built(384 + c[0], Machine.meta(6, 0, 0, c[0], c[1]), c[2]);
            built(384 + c[0], Machine.meta(6, 0, 0, c[0], c[1]) | MIN, c[2]);
        }
        // The bounds are those that T has at its own address.
        int meta = Machine.meta(6, 0, 0, 16, 56);
        built(384, meta, 1);
        built(383, meta, 0);
        built(511, meta, 1);
        built(512, meta, 0);
        built(-1, meta, 0);
        built(MIN + 400, meta, 0);
        // Another unit.
        built(400, Machine.meta(6, 0, 3, 50, 55), 1);
        built(400, Machine.meta(6, 0, 3, 49, 55), 0);
        built(400, Machine.meta(6, 0, 3, 50, 56), 0);
        built(400, Machine.meta(6, 0, 4, 25, 27), 1);
        built(400, Machine.meta(6, 0, 31, 0, 0), 0);
        Machine m = machine("build of below 0");
        m.raw(3, 0, Machine.meta(0, 0, 0, 17, 0));
        m.op(26, 4, 1, 3, 0);
        m.due("tag of the base -111", m.reg(4, 2), 0);
        m.raw(3, 0, Machine.meta(0, 0, 31, 0, 0));
        m.op(26, 4, 1, 3, 0);
        m.due("tag of 0 .. 0", m.reg(4, 2), 1);
        m.raw(3, 0, Machine.meta(0, 0, 31, 0, 1));
        m.op(26, 4, 1, 3, 0);
        m.due("tag of 0 .. 2 to the power of 31", m.reg(4, 2), 0);
    }

    private void buildPermissions() {
        tally.sentence("26 BUILD: ... all of T's permissions are in S, and T is not sealed; else without.");
        int[][] sets = {{0, 1}, {2, 1}, {4, 1}, {6, 1}, {7, 0}, {1, 0}, {8, 0}, {14, 0}, {128, 0}, {134, 0}, {255, 0}};
        for (int[] c : sets) {
            built(400, Machine.meta(c[0], 0, 0, 16, 56), c[1]);
        }
        for (int type = 0; type < 16; type++) {
            built(400, Machine.meta(6, type, 0, 16, 56), type == 0 ? 1 : 0);
        }
    }

    private void buildFrom() {
        tally.sentence("26 BUILD: D is T, with a tag if S has one and is not sealed");
        step("from a root", code(26, 3, 1, 6, 0)).register(3, 400, META_OF_2, 1, 400, 440).inOneStep();
        step("from one that is the same", code(26, 6, 2, 6, 0)).register(6, 400, META_OF_2, 1, 400, 440).inOneStep();
        step("from one with a tag, of one with a tag", code(26, 3, 2, 2, 0)).register(3, 400, META_OF_2, 1, 400, 440)
            .inOneStep();
        step("from one without a tag", code(26, 3, 6, 6, 0)).register(3, 400, META_OF_2, 0, 400, 440).inOneStep();
        step("from one without a tag, of one with", code(26, 3, 6, 2, 0)).register(3, 400, META_OF_2, 0, 400, 440)
            .inOneStep();
        step("from a sealed one", code(26, 3, 4, 6, 0)).register(3, 400, META_OF_2, 0, 400, 440).inOneStep();
        step("from a sealed one, of one with a tag", code(26, 3, 4, 2, 0)).register(3, 400, META_OF_2, 0, 400, 440)
            .inOneStep();
        step("from an entry", code(26, 3, 5, 6, 0)).register(3, 400, META_OF_2, 0, 400, 440).inOneStep();
        step("of a sealed one with a tag", code(26, 3, 1, 4, 0)).register(3, 400, META_OF_2 | 5 << 8, 0, 400, 440)
            .inOneStep();
        step("of an entry with a tag", code(26, 3, 1, 5, 0)).register(3, 32, ROOT_META | 1 << 8, 0, 0, 1024)
            .inOneStep();
        step("of a root from a small one", code(26, 3, 2, 1, 0)).register(3, 0, ROOT_META, 0, 0, 1024).inOneStep();
        step("of null", code(26, 3, 1, 0, 0)).register(3, 0, 0, 1, 0, 0).inOneStep();
        step("of a number", code(26, 3, 1, 3, 0)).register(3, 77, 0, 1, 0, 0).inOneStep();
        step("from null", code(26, 3, 0, 2, 0)).register(3, 400, META_OF_2, 0, 400, 440).inOneStep();
        step("with D being S", code(26, 1, 1, 6, 0)).register(1, 400, META_OF_2, 1, 400, 440).inOneStep();
    }

    private void copies() {
        tally.sentence("27 D is S.     28 D is S without a tag.");
        int[][] registers = {{1, 0, ROOT_META, 1, 0, 1024}, {2, 400, META_OF_2, 1, 400, 440},
            {4, 400, META_OF_2 | 5 << 8, 1, 400, 440}, {5, 32, ROOT_META | 1 << 8, 1, 0, 1024},
            {6, 400, META_OF_2, 0, 400, 440}, {0, 0, 0, 0, 0, 0}};
        for (int[] r : registers) {
            step("27 of " + r[0], code(27, 3, r[0], 7, -1)).register(3, r[1], r[2], r[3], r[4], r[5]).inOneStep();
            step("28 of " + r[0], code(28, 3, r[0], 7, -1)).register(3, r[1], r[2], 0, r[4], r[5]).inOneStep();
            step("27 of " + r[0] + " to itself", code(27, r[0], r[0], 0, 0)).inOneStep();
            step("28 of " + r[0] + " to itself", code(28, r[0], r[0], 0, 0)).becomes("register(" + r[0] + ", 2)", 0)
                .inOneStep();
        }
        Machine m = machine("copies of all bits");
        m.raw(2, MIN, -1);
        m.op(27, 3, 2, 0, 0);
        m.dueReg(3, MIN, -1, 0);
        m.op(28, 3, 2, 0, 0);
        m.dueReg(3, MIN, -1, 0);
    }

    private void swap() {
        tally.sentence("29 SWAP: ... D gets the register 9 + I, and that gets S as it was, unless s is 0.");
        int[][] specials = {{Scene.HANDLER_AT, ROOT_META, 0, 1024}, {68, ROOT_META, 0, 1024}, {400, META_OF_2, 400, 440}};
        for (int i = 0; i < 3; i++) {
            int[] was = specials[i];
            step("swap of " + i, code(29, 3, 4, 7, i)).register(3, was[0], was[1], 1, was[2], was[3])
                .register(9 + i, 400, META_OF_2 | 5 << 8, 1, 400, 440).inOneStep();
            step("swap of " + i + " with D being S", code(29, 5, 5, 0, i)).register(5, was[0], was[1], 1, was[2], was[3])
                .register(9 + i, 32, ROOT_META | 1 << 8, 1, 0, 1024).inOneStep();
            step("swap of " + i + " without D", code(29, 0, 7, 0, i)).number(9 + i, -3).inOneStep();
            step("swap of " + i + " without S", code(29, 3, 0, 0, i)).register(3, was[0], was[1], 1, was[2], was[3])
                .inOneStep();
            step("swap of " + i + " without both", code(29, 0, 0, 0, i)).inOneStep();
            // Null that is not register 0 is written.
            step("swap of " + i + " with a null in 3", set(3, 0), code(29, 7, 3, 0, i)).number(9 + i, 0)
                .register(7, was[0], was[1], 1, was[2], was[3]).inOneStep();
        }
    }

    private void swapRefused() {
        tally.sentence("29 SWAP: ... trap 8 with 8 if I is not 0 .. 2");
        int[] wrong = {-1, 3, 4, -2, -9, 256, 65536, 131071, -131072};
        for (int i : wrong) {
            trap("swap of " + i, 8 + 128, code(29, 3, 2, 0, i)).inOneStep();
            trap("swap of " + i + " without S", 8 + 128, code(29, 3, 0, 0, i)).inOneStep();
        }
    }

    private void call() {
        tally.sentence("30 CALL: trap 0 with 9.");
        int[] instructions = {30, code(30, 7, 7, 7, -1), code(30, 1, 2, 3, 0)};
        for (int instruction : instructions) {
            trap("call by " + instruction, 9, instruction).inOneStep();
        }
    }

    private Effect returned(String name, int... instructions) {
        return new Effect(tally, name, () -> Scene.before(tally, instructions)).grows("steps()", 1);
    }

    private void returning() {
        tally.sentence("31 RETURN: ... PCC becomes EPCC, with type 0 if that is an entry.");
        int to = code(31, 7, 6, 5, -1);
        returned("to the root at 68", to).register(8, 68, ROOT_META, 1, 0, 1024).inOneStep();
        returned("to a small one", code(29, 0, 2, 0, 1), to).register(8, 400, META_OF_2, 1, 400, 440).inOneStep();
        returned("to an entry", code(29, 0, 5, 0, 1), to).register(8, 32, ROOT_META, 1, 0, 1024).inOneStep();
        returned("to a sealed one", code(29, 0, 4, 0, 1), to).register(8, 400, META_OF_2 | 5 << 8, 1, 400, 440)
            .inOneStep();
        returned("to one without a tag", code(29, 0, 6, 0, 1), to).register(8, 400, META_OF_2, 0, 400, 440).inOneStep();
        returned("to a number", code(29, 0, 7, 0, 1), to).number(8, -3).inOneStep();
        int[] types = {2, 15};
        for (int type : types) {
            returned("to type " + type, set(7, type), code(22, 7, 1, 7, 0), code(23, 6, 1, 7, 0), code(29, 0, 6, 0, 1), to)
                .register(8, 0, ROOT_META | type << 8, 1, 0, 1024).inOneStep();
        }
        returned("without EXECUTE", set(7, ALL - 1), code(20, 6, 1, 7, 0), code(29, 0, 6, 0, 1), to)
            .register(8, 0, ROOT_META - 1, 1, 0, 1024).inOneStep();
    }
}
