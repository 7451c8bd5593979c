import java.util.Arrays;

/** The sentences about checks, traps and steps, each at its edges. */
public final class StepEdgesTest {
    private static final int ROOT_META = Scene.ROOT_META;
    private static final int ALL = Machine.ALL;
    private static final int EXECUTE = 1;
    private static final int LOAD = 2;
    private static final int STORE = 4;
    private static final int STORECAP = 16;
    private static final int SEAL = 32;
    private static final int UNSEAL = 64;
    private static final int SYSTEM = 128;
    private static final int AT = Scene.AT;
    private static final int CALL = 30;

    private final Tally tally;

    private StepEdgesTest(Tally tally) {
        this.tally = tally;
    }

    public static void main(String[] args) {
        Tally tally = new Tally("StepEdgesTest");
        StepEdgesTest test = new StepEdgesTest(tally);
        test.firstCause();
        test.firstCauseOfPcc();
        test.firstCauseOfSeal();
        test.firstCauseOfUnseal();
        test.memoryEndsWhereBoundsEnd();
        test.epcc();
        test.causeTellsTheRegister();
        test.nothingElseIsDone();
        test.nothingElseIsDoneWithoutSystem();
        test.handler();
        test.noHandler();
        test.handlerAnywhere();
        test.fieldsOfTheInstruction();
        test.signOfI();
        test.nextWord();
        test.branch();
        test.link();
        test.whatStays();
        tally.end();
    }

    private Machine machine(String name) {
        return new Machine(tally, name);
    }

    private Effect step(String name, int... instructions) {
        return Effect.ofStep(tally, name, instructions);
    }

    private Effect trap(String name, int cause, int... instructions) {
        return Effect.ofTrap(tally, name, cause, instructions);
    }

    /** Which of the causes hold, the bit k - 1 for cause k; the first one is due. */
    private static int first(int causes) {
        return causes == 0 ? 0 : Integer.numberOfTrailingZeros(causes) + 1;
    }

    private static boolean holds(int causes, int k) {
        return (causes & 1 << k - 1) != 0;
    }

    private void firstCause() {
        tally.sentence("cause 1 if it has no tag; 2 if it is sealed; 3 if it lacks one of p; 4 if x is no multiple of n;"
            + " 5 if x does not lie in it for n bytes; ... The first that holds is a trap of r.");
        for (int causes = 0; causes < 32; causes++) {
            checked(causes, 11, LOAD, 0);
            checked(causes, 12, STORE, 1);
            checked(causes, 13, LOAD, 0);
            checked(causes, 14, STORE, 0);
            checked(causes, 14, STORE, 1);
            checked(causes, 14, STORECAP, 1);
        }
    }

    private void checked(int causes, int operation, int permission, int t) {
        Machine m = machine("operation " + operation + " with the causes " + Integer.toBinaryString(causes));
        m.cap(2, 400, 16, holds(causes, 3) ? ALL - permission : ALL);
        if (holds(causes, 2)) {
            m.sealed(2, 3);
        }
        if (holds(causes, 1)) {
            m.op(28, 2, 2, 0, 0);
        }
        int i = (holds(causes, 4) ? 2 : 0) + (holds(causes, 5) ? 16 : 0);
        if (causes == 0) {
            m.op(operation, 3, 2, t, i);
        } else {
            m.trap(first(causes) + 32, operation, 3, 2, t, i);
        }
    }

    private void firstCauseOfPcc() {
        tally.sentence("A STEP: check PCC for EXECUTE and 4 bytes at its address.");
        for (int causes = 0; causes < 32; causes++) {
            Machine m = machine("PCC with the causes " + Integer.toBinaryString(causes));
            int x = 512 + (holds(causes, 4) ? 2 : 0) + (holds(causes, 5) ? 16 : 0);
            m.cap(2, 512, 16, holds(causes, 3) ? ALL - EXECUTE : ALL);
            m.give(3, x);
            m.op(22, 2, 2, 3, 0);
            if (holds(causes, 2)) {
                m.sealed(2, 9);
            }
            if (holds(causes, 1)) {
                m.op(28, 2, 2, 0, 0);
            }
            m.op(29, 0, 2, 0, 1);
            m.flow(31, 0, 0, 0, 0);
            if (causes == 0) {
                m.op(1, 3, 0, 0, 1);
            } else {
                m.trapAtPcc(first(causes) + 128, x);
            }
        }
        int[][] edges = {{512, 16, 508, 5}, {512, 16, 512, 0}, {512, 16, 524, 0}, {512, 16, 528, 5}, {513, 15, 512, 5},
            {512, 15, 524, 5}, {512, 4, 512, 0}, {512, 3, 512, 5}, {512, 16, 513, 4}, {512, 16, 515, 4},
            {0, 1024, 0, 0}, {0, 1024, 1020, 0}, {0, 1024, 1024, 5}, {0, 1024, 1023, 4}};
        for (int[] c : edges) {
            runAt(c[0], c[1], c[2], c[3]);
        }
    }

    private void runAt(int base, int length, int x, int cause) {
        Machine m = machine("run at " + x + " from " + base + " for " + length);
        m.cap(2, base, length, ALL);
        m.give(3, x);
        m.op(22, 2, 2, 3, 0);
        m.flow(18, 0, 2, 0, 0);
        if (cause == 0) {
            m.op(1, 3, 0, 0, 1);
        } else {
            m.trapAtPcc(cause + 128, x);
        }
    }

    /** Register 6 is made to seal or unseal at x; causes as above, and 7 by the x that is chosen. */
    private void authority(Machine m, int causes, int base, int length, int x, int permission) {
        m.cap(6, base, length, holds(causes, 3) ? ALL - permission : permission);
        m.give(7, x);
        m.op(22, 6, 6, 7, 0);
        if (holds(causes, 2)) {
            m.sealed(6, 12);
        }
        if (holds(causes, 1)) {
            m.op(28, 6, 6, 0, 0);
        }
    }

    private void firstCauseOfSeal() {
        tally.sentence("SEAL: trap s with 1 if S has no tag, 2 if it is sealed; then check t for SEAL, 1 byte at T.x;"
            + " trap t with 7 if T.x is not 2 .. 15");
        for (int of = 0; of < 4; of++) {
            for (int causes = 0; causes < 128; causes++) {
                if (!holds(causes, 4) && !holds(causes, 6)) {
                    sealed(of, causes);
                }
            }
        }
    }

    private void sealed(int of, int causes) {
        Machine m = machine("seal of " + of + " with the causes " + Integer.toBinaryString(causes));
        m.op(27, 2, 1, 0, 0);
        if (holds(of, 2)) {
            m.sealed(2, 3);
        }
        if (holds(of, 1)) {
            m.op(28, 2, 2, 0, 0);
        }
        int base = holds(causes, 7) ? 16 : 4;
        authority(m, causes, base, 6, holds(causes, 5) ? base == 16 ? 22 : 3 : base + 1, SEAL);
        dueTrap(m, 23, first(of), first(causes));
    }

    private void dueTrap(Machine m, int operation, int ofS, int ofT) {
        if (ofS != 0) {
            m.trap(ofS + 32, operation, 3, 2, 6, 0);
        } else if (ofT != 0) {
            m.trap(ofT + 96, operation, 3, 2, 6, 0);
        } else {
            m.op(operation, 3, 2, 6, 0);
        }
    }

    private void firstCauseOfUnseal() {
        tally.sentence("UNSEAL: trap s with 1 if S has no tag, 2 if it is not sealed or an entry; then check t for UNSEAL,"
            + " 1 byte at T.x; trap t with 7 if T.x is not S's type");
        for (int of = 0; of < 6; of++) {
            for (int causes = 0; causes < 128; causes++) {
                if (!holds(causes, 4) && !holds(causes, 6)) {
                    unsealed(of >> 1, of & 1, causes);
                }
            }
        }
    }

    /** Kind 0 has type 5, kind 1 is not sealed and kind 2 an entry. */
    private void unsealed(int kind, int untagged, int causes) {
        Machine m = machine("unseal of " + kind + " with the causes " + Integer.toBinaryString(causes));
        m.op(27, 2, 1, 0, 0);
        if (kind == 0) {
            m.sealed(2, 5);
        } else if (kind == 2) {
            m.entry(2);
        }
        if (untagged == 1) {
            m.op(28, 2, 2, 0, 0);
        }
        int base = holds(causes, 5) ? 7 : 4;
        authority(m, causes, base, 6, holds(causes, 7) ? 6 : 5, UNSEAL);
        dueTrap(m, 24, untagged == 1 ? 1 : kind == 0 ? 0 : 2, first(causes));
    }

    /** No capability with a tag has bounds beyond 1024, so cause 5 is always there before 6. */
    private void memoryEndsWhereBoundsEnd() {
        tally.sentence("6 if x + n is above 1024.");
        int[][] edges = {{11, 1016, 0}, {11, 1020, 0}, {11, 1024, 5}, {11, 1028, 5}, {12, 1020, 0}, {12, 1024, 5},
            {13, 1008, 0}, {13, 1016, 0}, {13, 1024, 5}, {14, 1016, 0}, {14, 1024, 5}, {13, 1020, 4}, {14, 1020, 4}};
        for (int[] c : edges) {
            Machine m = machine("operation " + c[0] + " at " + c[1]);
            if (c[2] == 0) {
                m.op(c[0], 3, 1, 0, c[1]);
            } else {
                m.trap(c[2] + 16, c[0], 3, 1, 0, c[1]);
            }
        }
    }

    private void epcc() {
        tally.sentence("EPCC becomes PCC (as it was at the beginning of the step)");
        trap("call", 9, CALL).inOneStep();
        // Without a tag: a branch has left the window of 512 .. 544, which is 496 .. 623.
        new Effect(tally, "trap of a PCC without a tag", () -> away(28)).grows("steps()", 1).grows("traps()", 1)
            .becomes("cause()", 1 + 128).register(10, 624 + 20, Scene.PCC_META, 0, 640, 672)
            .register(8, Scene.HANDLER_AT, ROOT_META, 1, 0, 1024).inOneStep();
        new Effect(tally, "trap of a PCC behind its bounds", () -> away(3)).grows("steps()", 1).grows("traps()", 1)
            .becomes("cause()", 5 + 128).register(10, 544, Scene.PCC_META, 1, 512, 544)
            .register(8, Scene.HANDLER_AT, ROOT_META, 1, 0, 1024).inOneStep();
    }

    private Machine away(int words) {
        Machine m = Scene.before(tally, Machine.code(15, 0, 0, 0, words));
        m.due("run(1)", m.run(1), 1);
        return m;
    }

    private void causeTellsTheRegister() {
        tally.sentence("CAUSE becomes k + 16 * r");
        for (int r = 0; r < 8; r++) {
            CapabilityCore core = new CapabilityCore();
            core.give(1, 0);
            core.poke(0, Machine.code(11, 3, r, 0, 0));
            core.run(1);
            tally.due("cause() of a load by " + r, core.cause(), 1 + 16 * r);
            core.poke(1, Machine.code(18, 3, r, 0, 0));
            core.wake(1);
            core.run(1);
            tally.due("cause() of a jump by " + r, core.cause(), 1 + 16 * r);
            core.poke(2, Machine.code(23, 3, r, 0, 0));
            core.wake(2);
            core.run(1);
            tally.due("cause() of a seal of " + r, core.cause(), 1 + 16 * r);
        }
        for (int t = 2; t < 8; t++) {
            Machine m = machine("cause of t being " + t);
            m.op(27, t, 1, 0, 0);
            m.trap(7 + 16 * t, 23, 3, 1, t, 0);
        }
        trap("swap of a register that is not there", 8 + 128, Machine.code(29, 3, 2, 0, 3)).inOneStep();
        trap("call, with d, s, t and I", 9, Machine.code(30, 7, 6, 5, -1)).inOneStep();
    }

    private void nothingElseIsDone() {
        tally.sentence("nothing else of the step is done");
        int[][] traps = {{1 + 96, 11, 3, 6, 0, 0}, {2 + 64, 11, 3, 4, 0, 0}, {4 + 32, 11, 3, 2, 0, 2},
            {5 + 32, 11, 3, 2, 0, 40}, {1 + 96, 12, 3, 6, 3, 0}, {2 + 64, 12, 3, 4, 3, 0}, {4 + 16, 12, 3, 1, 3, 961},
            {5 + 32, 12, 3, 2, 3, -4}, {1, 13, 3, 0, 0, 960}, {2 + 80, 13, 3, 5, 0, 0}, {4 + 16, 13, 3, 1, 0, 964},
            {5 + 16, 13, 3, 1, 0, 1024}, {1 + 48, 14, 3, 3, 1, 0}, {2 + 64, 14, 3, 4, 1, 0}, {4 + 16, 14, 3, 1, 1, 964},
            {5 + 16, 14, 3, 1, 1, 1024}, {5 + 32, 14, 3, 2, 1, -8}, {1 + 112, 18, 3, 7, 0, 0}, {2 + 64, 18, 3, 4, 0, 0},
            {1 + 96, 23, 3, 6, 1, 0}, {2 + 80, 23, 3, 5, 1, 0}, {1 + 48, 23, 2, 2, 3, 0}, {7 + 16, 23, 2, 2, 1, 0},
            {1 + 48, 24, 2, 3, 1, 0}, {2 + 32, 24, 3, 2, 1, 0}, {7 + 16, 24, 3, 4, 1, 0}, {1 + 48, 24, 3, 4, 3, 0},
            {8 + 128, 29, 3, 2, 0, -1}, {8 + 128, 29, 3, 2, 0, 3}, {9, 30, 3, 2, 1, 0}};
        for (int[] c : traps) {
            trap("operation " + c[1] + " with trap " + c[0], c[0], Machine.code(c[1], c[2], c[3], c[4], c[5]))
                .inOneStep();
        }
    }

    /** With root bounds but not all permissions, PCC goes on at 532. */
    private int[] withPermissions(int permissions, int instruction) {
        return new int[] {Machine.code(1, 6, 0, 0, AT), Machine.code(22, 6, 1, 6, 0),
            Machine.code(1, 7, 0, 0, permissions), Machine.code(20, 6, 6, 7, 0), Machine.code(18, 0, 6, 0, 0),
            instruction};
    }

    private void nothingElseIsDoneWithoutSystem() {
        tally.sentence("trap 8 with 3 if PCC lacks SYSTEM");
        int[] instructions = {Machine.code(29, 3, 2, 0, 0), Machine.code(29, 3, 2, 0, 1), Machine.code(29, 3, 2, 0, 2),
            Machine.code(29, 3, 0, 0, 0), Machine.code(29, 3, 2, 0, 3), Machine.code(29, 3, 2, 0, -1),
            Machine.code(31, 0, 0, 0, 0)};
        int meta = ROOT_META - SYSTEM;
        for (int instruction : instructions) {
            trap("without SYSTEM, " + instruction, 3 + 128, withPermissions(ALL - SYSTEM, instruction))
                .register(10, AT, meta, 1, 0, 1024).inOneStep();
        }
        step("swap with EXECUTE and SYSTEM alone", withPermissions(EXECUTE | SYSTEM, Machine.code(29, 3, 0, 0, 2)))
            .register(3, 400, Scene.META_OF_2, 1, 400, 440).inOneStep();
    }

    /** Register 6 becomes the root at an address with these permissions, and then the handler. */
    private int[] withHandler(int address, int permissions, int... more) {
        int[] start = {Machine.code(1, 6, 0, 0, address), Machine.code(22, 6, 1, 6, 0),
            Machine.code(1, 7, 0, 0, permissions), Machine.code(20, 6, 6, 7, 0)};
        int[] all = Arrays.copyOf(start, start.length + more.length + 2);
        System.arraycopy(more, 0, all, start.length, more.length);
        all[all.length - 2] = Machine.code(29, 0, 6, 0, 0);
        all[all.length - 1] = CALL;
        return all;
    }

    private void handler() {
        tally.sentence("then PCC becomes the handler if that has a tag, is not sealed and has EXECUTE");
        int[] permissions = {EXECUTE, ALL, EXECUTE | LOAD, ALL - SYSTEM};
        for (int set : permissions) {
            trap("handler with " + set, 9, withHandler(800, set))
                .register(8, 800, ROOT_META & ~ALL | set, 1, 0, 1024).inOneStep();
        }
    }

    private Effect stuck(String name, int... instructions) {
        return new Effect(tally, name, () -> Scene.before(tally, instructions)).grows("steps()", 1)
            .grows("traps()", 1).becomes("cause()", 9).becomes("state()", 2)
            .register(10, AT, Scene.PCC_META, 1, 512, 544);
    }

    private void noHandler() {
        tally.sentence("if not, the processor is STUCK.");
        stuck("handler without EXECUTE", withHandler(800, ALL - EXECUTE)).inOneStep();
        stuck("handler with no permission", withHandler(800, 0)).inOneStep();
        stuck("handler without a tag", withHandler(800, ALL, Machine.code(28, 6, 6, 0, 0))).inOneStep();
        stuck("handler that is a number", Machine.code(29, 0, 3, 0, 0), CALL).of(c -> c.run(100), 1);
        stuck("handler that is an entry", Machine.code(29, 0, 5, 0, 0), CALL).of(c -> c.run(100), 1);
        stuck("handler that is sealed", Machine.code(29, 0, 4, 0, 0), CALL).of(c -> c.run(100), 1);
        int[] types = {2, 8, 15};
        for (int type : types) {
            stuck("handler of type " + type, withHandler(800, ALL, Machine.code(1, 7, 0, 0, type),
                Machine.code(22, 7, 1, 7, 0), Machine.code(23, 6, 6, 7, 0))).inOneStep();
        }
    }

    /** Where it points is not looked at before the next step. */
    private void handlerAnywhere() {
        tally.sentence("then PCC becomes the handler (wherever that points)");
        int[][] places = {{0, 0}, {1020, 0}, {1024, 5}, {1791, 4}, {801, 4}, {802, 4}};
        for (int[] place : places) {
            trap("handler at " + place[0], 9, withHandler(place[0], ALL))
                .register(8, place[0], ROOT_META, 1, 0, 1024).inOneStep();
            if (place[1] != 0) {
                trap("handler at " + place[0] + ", and its own trap", place[1] + 128, withHandler(place[0], ALL))
                    .grows("steps()", 2).grows("traps()", 2).register(10, place[0], ROOT_META, 1, 0, 1024)
                    .register(8, place[0], ROOT_META, 1, 0, 1024).of(c -> c.run(2), 2);
            }
        }
    }

    private void fieldsOfTheInstruction() {
        tally.sentence("its lowest five bits are the OPERATION, the next three d, the next three s, the next three t");
        for (int d = 1; d < 8; d++) {
            for (int other = 1; other < 8; other++) {
                CapabilityCore core = new CapabilityCore();
                for (int r = 1; r < 8; r++) {
                    core.give(r, 1 << r);
                }
                int t = 8 - other;
                core.poke(0, 2 | d << 5 | other << 8 | t << 11);
                core.run(1);
                for (int r = 1; r < 8; r++) {
                    int want = r == d ? (1 << other) + (1 << t) : 1 << r;
                    tally.due("register " + r + " after d " + d + ", s " + other + ", t " + t, core.register(r, 0), want);
                }
            }
        }
        int[][] operations = {{1, 21}, {2, 14}, {3, 6}, {4, 0}, {5, 14}, {6, 14}, {7, 160}, {8, 0}, {9, 0}, {10, 11 << 14}};
        for (int[] operation : operations) {
            CapabilityCore core = new CapabilityCore();
            core.give(2, 10);
            core.give(3, 4);
            core.poke(0, operation[0] | 4 << 5 | 2 << 8 | 3 << 11 | 11 << 14);
            core.run(1);
            tally.due("operation " + operation[0], core.register(4, 0), operation[1]);
        }
    }

    private void signOfI() {
        tally.sentence("and the others (with the sign) I.");
        for (int bit = 14; bit < 32; bit++) {
            CapabilityCore core = new CapabilityCore();
            core.poke(0, 1 | 2 << 5 | 1 << bit);
            core.run(1);
            tally.due("I by bit " + bit, core.register(2, 0), bit == 31 ? -131072 : 1 << bit - 14);
        }
        int[] values = {-131072, -131071, -2, -1, 0, 1, 2, 131070, 131071};
        for (int i : values) {
            CapabilityCore core = new CapabilityCore();
            core.poke(0, 1 | 2 << 5 | 7 << 11 | i << 14);
            core.run(1);
            tally.due("I being " + i, core.register(2, 0), i);
        }
    }

    private void nextWord() {
        tally.sentence("After it PCC is moved to its address + 4, if it is not said otherwise.");
        int[] operations = {1, 2, 3, 4, 5, 6, 7, 8, 9, 10, 19, 20, 21, 22, 25, 26, 27, 28};
        for (int operation : operations) {
            step("operation " + operation, Machine.code(operation, 0, 2, 2, 0)).inOneStep();
        }
        int[][] others = {{11, 1, 0}, {13, 1, 0}, {29, 0, 0}};
        for (int[] c : others) {
            step("operation " + c[0], Machine.code(c[0], 0, c[1], 0, c[2])).inOneStep();
        }
        Machine m = machine("the last word");
        m.flow(15, 0, 0, 0, 255);
        m.op(27, 0, 0, 0, 0);
        m.dueReg(8, 1024, ROOT_META, 1);
    }

    /** The scene's PCC, 512 .. 544, has the window 496 .. 623. */
    private void branch() {
        tally.sentence("To BRANCH is to move PCC to its address + 4 * I.");
        long[][] ways = {{0, 1, 512}, {1, 1, 512}, {-1, 1, 512}, {2, 1, 512}, {-5, 1, 512}, {-9, 1, 512},
            {-10, 0, 384}, {22, 1, 512}, {23, 0, 640}, {131071, 0, 524800}, {-131072, 0, 4294443520L}};
        for (long[] way : ways) {
            int i = (int) way[0];
            for (int operation = 15; operation <= 17; operation++) {
                step("branch by " + i, Machine.code(operation, 0, operation == 16 ? 7 : 0, 0, i))
                    .register(8, AT + 4 * i, Scene.PCC_META, (int) way[1], way[2], way[2] + 32).inOneStep();
            }
        }
        step("no branch by 15", Machine.code(15, 0, 3, 7, 5)).inOneStep();
        step("no branch by 16", Machine.code(16, 0, 3, 7, 5)).inOneStep();
    }

    private void link() {
        tally.sentence("The LINK is PCC, moved to its address + 4, with type 1.");
        int meta = Scene.PCC_META | 1 << 8;
        step("link by 17", Machine.code(17, 2, 0, 0, 1)).register(2, AT + 4, meta, 1, 512, 544).inOneStep();
        step("link by 17 into 4", Machine.code(17, 4, 3, 3, -2)).becomes("register(8, 0)", AT - 8)
            .register(4, AT + 4, meta, 1, 512, 544).inOneStep();
        step("link by 18", Machine.code(18, 3, 1, 0, 0)).register(3, AT + 4, meta, 1, 512, 544)
            .register(8, 0, ROOT_META, 1, 0, 1024).inOneStep();
        Machine m = machine("link behind the last word");
        m.flow(15, 0, 0, 0, 255);
        m.flow(17, 3, 0, 0, -255);
        m.dueReg(3, 1024, ROOT_META | 1 << 8, 1);
        m.dueReg(8, 0, ROOT_META, 1);
        m.flow(18, 0, 3, 0, 0);
        m.trapAtPcc(5 + 128, 1024);
    }

    private void whatStays() {
        tally.sentence("Where the tag of a changed capability is not spoken of, it stays; the type and the address too.");
        int meta = Scene.META_OF_2;
        step("narrowed", Machine.code(1, 3, 0, 0, 8), Machine.code(19, 3, 2, 3, 0))
            .register(3, 400, ALL | 16 << 17 | 24 << 24, 1, 400, 408).inOneStep();
        step("narrowed without a tag", Machine.code(1, 3, 0, 0, 8), Machine.code(19, 3, 6, 3, 0))
            .register(3, 400, ALL | 16 << 17 | 24 << 24, 0, 400, 408).inOneStep();
        step("narrowed when sealed", Machine.code(1, 3, 0, 0, 8), Machine.code(19, 3, 4, 3, 0))
            .register(3, 400, ALL | 5 << 8 | 16 << 17 | 24 << 24, 0, 400, 408).inOneStep();
        step("fewer permissions", Machine.code(20, 3, 2, 3, 0))
            .register(3, 400, meta & ~ALL | 77, 1, 400, 440).inOneStep();
        step("fewer permissions without a tag", Machine.code(20, 3, 6, 3, 0))
            .register(3, 400, meta & ~ALL | 77, 0, 400, 440).inOneStep();
        step("fewer permissions when sealed", Machine.code(20, 3, 4, 3, 0))
            .register(3, 400, meta & ~ALL | 77 | 5 << 8, 0, 400, 440).inOneStep();
        int five = Machine.code(1, 3, 0, 0, 5);
        int authority = Machine.code(22, 3, 1, 3, 0);
        step("sealed", five, authority, Machine.code(23, 7, 2, 3, 0))
            .register(7, 400, meta | 5 << 8, 1, 400, 440).inOneStep();
        step("unsealed", five, authority, Machine.code(24, 7, 4, 3, 0))
            .register(7, 400, meta, 1, 400, 440).inOneStep();
        step("a sealed one swapped", Machine.code(29, 3, 4, 0, 2)).register(3, 400, meta, 1, 400, 440)
            .register(11, 400, meta | 5 << 8, 1, 400, 440).inOneStep();
        // PCC becomes an entry without a tag: its type goes, no tag comes.
        step("return to an entry without a tag", Machine.code(28, 6, 5, 0, 0), Machine.code(29, 0, 6, 0, 1),
            Machine.code(31, 0, 0, 0, 0)).register(8, 32, ROOT_META, 0, 0, 1024).inOneStep();
        step("return to a sealed one", Machine.code(29, 0, 4, 0, 1), Machine.code(31, 0, 0, 0, 0))
            .register(8, 400, meta | 5 << 8, 1, 400, 440).inOneStep();
    }
}
