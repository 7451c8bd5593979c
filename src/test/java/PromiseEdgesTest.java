import java.util.List;
import java.util.function.Supplier;

/** The sentences of the promises 1 to 14 and of what refused calls leave, each at its edges. */
public final class PromiseEdgesTest {
    private static final int ROOT_META = Scene.ROOT_META;
    private static final int HALT = 0;
    private static final int CALL = 30;
    private static final int NOTHING = 27;
    private static final int MIN = Integer.MIN_VALUE;
    private static final int MAX = Integer.MAX_VALUE;
    /** With those that come upon a word if their low bits alone, or four times them, are looked at. */
    private static final int[] NO_WORDS = {-1, 256, 257, -2, -255, -256, 511, 512, 65536 + 5, 1 << 30, (1 << 30) + 5,
        -(1 << 30), MIN, MIN + 5, MAX};
    private static final int[] NO_GRANULES = {-1, 128, 129, -127, -128, 255, 256, 65536, 1 << 29, MIN, MIN + 127, MAX};
    private static final int[] NO_REGISTERS = {-1, 12, 13, 16, 17, -8, -12, 256, 65537, MIN, MIN + 1, MAX};
    private static final int[] NO_COUNTS = {-1, 101, 102, -2, -100, 128, 256, 256 + 5, 65536 + 1, MIN, MIN + 1, MAX};
    private static final int[] NUMBERS = {MIN, MIN + 1, -1, 0, 1, MAX - 1, MAX};

    private final Tally tally;
    private final List<Supplier<Machine>> scenes;

    private PromiseEdgesTest(Tally tally) {
        this.tally = tally;
        scenes = List.of(() -> Scene.running(tally), () -> Scene.halted(tally), () -> Scene.stuck(tally));
    }

    public static void main(String[] args) {
        Tally tally = new Tally("PromiseEdgesTest");
        PromiseEdgesTest test = new PromiseEdgesTest(tally);
        test.theScene();
        test.calls();
        test.newObject();
        test.poke();
        test.peek();
        test.tagged();
        test.run();
        test.runRefused();
        test.state();
        test.wake();
        test.wakeRefused();
        test.cause();
        test.stepsAndTraps();
        test.register();
        test.baseAndTop();
        test.give();
        test.questionsChangeNothing();
        test.refusedCallsChangeNothing();
        tally.end();
    }

    private Effect running(String name) {
        return new Effect(tally, name, scenes.get(0));
    }

    private static long flag(boolean answer) {
        return answer ? 1 : 0;
    }

    /** The effects rest on the scene being what it says. */
    private void theScene() {
        tally.sentence("(the scene of the tests)");
        Machine m = Scene.running(tally);
        m.dueReg(1, 0, ROOT_META, 1);
        m.dueReg(2, 400, Scene.META_OF_2, 1);
        m.dueNumber(3, 77);
        m.dueReg(4, 400, Scene.META_OF_2 | 5 << 8, 1);
        m.dueReg(5, 32, ROOT_META | 1 << 8, 1);
        m.dueReg(6, 400, Scene.META_OF_2, 0);
        m.dueNumber(7, -3);
        m.dueReg(8, Scene.AT, Scene.PCC_META, 1);
        m.dueReg(9, Scene.HANDLER_AT, ROOT_META, 1);
        m.dueReg(10, 68, ROOT_META, 1);
        m.dueReg(11, 400, Scene.META_OF_2, 1);
        m.dueBounds(2, 400, 440);
        m.dueBounds(8, 512, 544);
        for (int g = 0; g < 128; g++) {
            m.due("tagged(" + g + ")", flag(m.tagged(g)), flag(g == 0 || g == 120 || g == 121 || g == 127));
        }
        m.due("state", m.state(), 0);
        m.due("cause", m.cause(), 9);
        m.called(1);
        m.due("steps", m.core.steps(), 23);
        m.due("traps", m.traps(), 1);
        theSceneWithoutZeros();
    }

    private void theSceneWithoutZeros() {
        Machine m = Scene.halted(tally);
        for (int w = 0; w < 200; w++) {
            m.due("word " + w + " is 0", flag(m.peek(w) == 0), 0);
        }
        m.due("state", m.state(), 1);
        m = Scene.stuck(tally);
        for (int w = 200; w < 256; w++) {
            m.due("word " + w + " is 0", flag(m.peek(w) == 0), 0);
        }
        m.due("state", m.state(), 2);
        m.dueReg(8, 536, Scene.PCC_META, 1);
        m.dueNumber(9, -3);
    }

    private CapabilityCore used(int calls) {
        CapabilityCore core = new CapabilityCore();
        core.poke(0, Machine.code(15, 0, 0, 0, 0));
        for (int k = 1; k < calls; k++) {
            core.run(100);
        }
        return core;
    }

    private void calls() {
        tally.sentence("An object is used for at most 512 calls after it has been made");
        for (int before = 510; before <= 511; before++) {
            int made = 100 * (before - 1);
            tally.due("poke after " + before, used(before).poke(255, 1), true);
            tally.due("peek after " + before, used(before).peek(0), 15);
            tally.due("tagged after " + before, used(before).tagged(127), false);
            tally.due("run after " + before, used(before).run(100), 100);
            tally.due("state after " + before, used(before).state(), 0);
            tally.due("wake after " + before, used(before).wake(0), false);
            tally.due("cause after " + before, used(before).cause(), 0);
            tally.due("steps after " + before, used(before).steps(), made);
            tally.due("traps after " + before, used(before).traps(), 0);
            tally.due("register after " + before, used(before).register(1, 1), ROOT_META);
            tally.due("base after " + before, used(before).base(8), 0);
            tally.due("top after " + before, used(before).top(8), 1024);
            tally.due("give after " + before, used(before).give(7, 1), true);
        }
        trapsInAllCalls();
    }

    /** 100 traps in each run: the handler is at the call itself. */
    private void trapsInAllCalls() {
        CapabilityCore core = new CapabilityCore();
        core.poke(0, Machine.code(29, 0, 1, 0, 0));
        core.run(1);
        core.poke(1, CALL);
        core.poke(0, CALL);
        for (int k = 4; k < 510; k++) {
            tally.due("run(100) of traps", core.run(100), 100);
        }
        tally.due("steps after 510 calls", core.steps(), 1 + 50600);
        tally.due("traps after 511 calls", core.traps(), 50600);
    }

    private void newObject() {
        tally.sentence("All is as at first.");
        CapabilityCore other = new CapabilityCore();
        other.poke(0, Machine.code(14, 0, 1, 1, 8));
        other.poke(1, CALL);
        other.give(1, 5);
        other.run(3);
        allIsAsAtFirst(new CapabilityCore());
        other = Scene.stuck(tally).core;
        CapabilityCore core = new CapabilityCore();
        other.poke(100, 9);
        other.give(2, 9);
        allIsAsAtFirst(core);
    }

    private void allIsAsAtFirst(CapabilityCore core) {
        for (int w = 0; w < 256; w++) {
            tally.due("peek(" + w + ")", core.peek(w), 0);
        }
        for (int g = 0; g < 128; g++) {
            tally.due("tagged(" + g + ")", core.tagged(g), false);
        }
        for (int r = 0; r < 12; r++) {
            boolean root = r == 1 || r == 8;
            tally.due("register(" + r + ", 0)", core.register(r, 0), 0);
            tally.due("register(" + r + ", 1)", core.register(r, 1), root ? ROOT_META : 0);
            tally.due("register(" + r + ", 2)", core.register(r, 2), root ? 1 : 0);
            tally.due("base(" + r + ")", core.base(r), 0);
            tally.due("top(" + r + ")", core.top(r), root ? 1024 : 0);
        }
        tally.due("state()", core.state(), 0);
        tally.due("cause()", core.cause(), 0);
        tally.due("steps()", core.steps(), 0);
        tally.due("traps()", core.traps(), 0);
    }

    private void poke() {
        tally.sentence("A word of memory becomes this, and its granule has no tag any more: true.");
        int[] words = {0, 1, 2, 3, 239, 240, 241, 242, 243, 244, 253, 254, 255};
        for (int word : words) {
            running("poke(" + word + ", -8)").becomes("peek(" + word + ")", -8)
                .becomes("tagged(" + word / 2 + ")", 0).of(c -> flag(c.poke(word, -8)), 1);
        }
        for (int number : NUMBERS) {
            running("poke(254, " + number + ")").becomes("peek(254)", number).becomes("tagged(127)", 0)
                .of(c -> flag(c.poke(254, number)), 1);
        }
        // The tag goes even if the word stays as it was.
        running("poke(240, 400)").becomes("tagged(120)", 0).of(c -> flag(c.poke(240, 400)), 1);
        for (int k = 1; k < 3; k++) {
            new Effect(tally, "poke(0, 1) in state " + k, scenes.get(k)).becomes("peek(0)", 1)
                .becomes("tagged(0)", 0).of(c -> flag(c.poke(0, 1)), 1);
        }
        tally.sentence("False if there is no such word. (poke)");
        for (int word : NO_WORDS) {
            running("poke(" + word + ", -8)").of(c -> flag(c.poke(word, -8)), 0);
        }
    }

    private void peek() {
        tally.sentence("The value of a word of memory");
        for (int number : NUMBERS) {
            CapabilityCore core = new CapabilityCore();
            int[] words = {0, 1, 127, 128, 254, 255};
            for (int word : words) {
                core.poke(word, number);
                tally.due("peek(" + word + ")", core.peek(word), number);
                tally.due("peek(" + (word ^ 2) + ")", core.peek(word ^ 2), 0);
                core.poke(word, 0);
                tally.due("peek(" + word + ") of 0", core.peek(word), 0);
            }
        }
        tally.sentence("0 if there is no such word. (peek)");
        for (int word : NO_WORDS) {
            running("peek(" + word + ")").of(c -> c.peek(word), 0);
        }
    }

    private void tagged() {
        tally.sentence("Whether a granule has a tag");
        int[] granules = {0, 1, 63, 64, 126, 127};
        for (int g : granules) {
            CapabilityCore core = new CapabilityCore();
            core.poke(4, Machine.code(14, 0, 1, 1, 8 * g));
            core.poke(0, Machine.code(15, 0, 0, 0, 4));
            core.run(1);
            tally.due("tagged(" + g + ") before", core.tagged(g), false);
            core.run(1);
            for (int k = 0; k < 128; k++) {
                tally.due("tagged(" + k + ") with " + g, core.tagged(k), k == g);
            }
            core.poke(2 * g + 1, 0);
            tally.due("tagged(" + g + ") after", core.tagged(g), false);
        }
        tally.sentence("false if there is no such granule.");
        for (int g : NO_GRANULES) {
            running("tagged(" + g + ")").of(c -> flag(c.tagged(g)), 0);
        }
    }

    /** This many instructions that do nothing, then the last one. */
    private static CapabilityCore program(int length, int last) {
        CapabilityCore core = new CapabilityCore();
        for (int w = 0; w < length; w++) {
            core.poke(w, NOTHING);
        }
        core.poke(length, last);
        return core;
    }

    private void run() {
        tally.sentence("Makes up to n steps, fewer if the processor is halted or stuck: how many"
            + " (the one in which it halts, or is stuck, is one).");
        int[] counts = {0, 1, 2, 99, 100};
        for (int n : counts) {
            CapabilityCore core = program(200, HALT);
            tally.due("run(" + n + ")", core.run(n), n);
            tally.due("PCC after run(" + n + ")", core.register(8, 0), 4 * n);
            tally.due("steps after run(" + n + ")", core.steps(), n);
        }
        int[] ends = {HALT, CALL};
        for (int end : ends) {
            for (int length = 0; length <= 101; length += length == 3 ? 95 : 1) {
                runToTheEnd(length, end);
            }
        }
        // A trap that has a handler is a step like others.
        CapabilityCore core = program(1, CALL);
        core.poke(0, Machine.code(29, 0, 1, 0, 0));
        tally.due("run(100) through traps", core.run(100), 100);
        tally.due("its traps", core.traps(), 50);
        tally.due("its state", core.state(), 0);
    }

    private void runToTheEnd(int length, int end) {
        int[] counts = {0, 1, length - 1, length, length + 1, length + 2, 100};
        for (int n : counts) {
            if (n >= 0 && n <= 100) {
                CapabilityCore core = program(length, end);
                int made = Math.min(n, length + 1);
                String name = "run(" + n + ") with the end in step " + (length + 1);
                tally.due(name, core.run(n), made);
                tally.due(name + ": steps()", core.steps(), made);
                tally.due(name + ": state()", core.state(), n <= length ? 0 : end == HALT ? 1 : 2);
                tally.due(name + ": traps()", core.traps(), n > length && end == CALL ? 1 : 0);
                tally.due(name + ": PCC", core.register(8, 0), 4 * Math.min(n, length));
            }
        }
    }

    private void runRefused() {
        tally.sentence("Refused, -1: n is not 0 .. 100.");
        for (int n : NO_COUNTS) {
            for (int state = 0; state < 3; state++) {
                new Effect(tally, "run(" + n + ") in state " + state, scenes.get(state)).of(c -> c.run(n), -1);
            }
        }
        running("run(0)").of(c -> c.run(0), 0);
        tally.sentence("(0 when it is halted or stuck already.)");
        int[] counts = {0, 1, 2, 99, 100};
        for (int n : counts) {
            for (int state = 1; state < 3; state++) {
                new Effect(tally, "run(" + n + ") in state " + state, scenes.get(state)).of(c -> c.run(n), 0);
            }
        }
    }

    private void state() {
        tally.sentence("0 the processor runs, 1 it is halted, 2 it is stuck.");
        CapabilityCore core = program(2, HALT);
        core.poke(3, CALL);
        tally.due("state() at first", core.state(), 0);
        core.run(2);
        tally.due("state() before the halt", core.state(), 0);
        core.run(1);
        tally.due("state() at the halt", core.state(), 1);
        core.run(1);
        tally.due("state() after the halt", core.state(), 1);
        core.wake(3);
        tally.due("state() when woken", core.state(), 0);
        core.run(1);
        tally.due("state() when stuck", core.state(), 2);
        core.run(1);
        tally.due("state() after that", core.state(), 2);
        core.wake(2);
        tally.due("state() when woken again", core.state(), 0);
        core.run(1);
        tally.due("state() when halted again", core.state(), 1);
        core.poke(4, Machine.code(29, 0, 1, 0, 0));
        core.poke(5, CALL);
        core.wake(4);
        core.run(2);
        tally.due("state() after a trap with a handler", core.state(), 0);
    }

    private void wake() {
        tally.sentence("A halted or stuck processor runs again: true. PCC becomes what register 1 is at first,"
            + " with an address of 4 * word. (All else stays.)");
        int[] words = {0, 1, 133, 254, 255};
        for (int word : words) {
            for (int state = 1; state < 3; state++) {
                new Effect(tally, "wake(" + word + ") in state " + state, scenes.get(state)).becomes("state()", 0)
                    .register(8, 4 * word, ROOT_META, 1, 0, 1024).of(c -> flag(c.wake(word)), 1);
            }
        }
        wakeWithAnotherRegister1();
        wakeFromOddPcc();
        wakeFromSealedPcc();
        wakeRunsTheWord(0);
        wakeRunsTheWord(255);
    }

    private void wakeWithAnotherRegister1() {
        CapabilityCore core = program(0, HALT);
        core.run(1);
        core.give(1, 44);
        tally.due("wake(1)", core.wake(1), true);
        tally.due("PCC", core.register(8, 0), 4);
        tally.due("PCC's meta", core.register(8, 1), ROOT_META);
        tally.due("PCC's tag", core.register(8, 2), 1);
        tally.due("register 1", core.register(1, 0), 44);
        tally.due("register 1's meta", core.register(1, 1), 0);
        tally.due("register 1's tag", core.register(1, 2), 0);
    }

    /** PCC without a tag, and behind memory. */
    private void wakeFromOddPcc() {
        CapabilityCore core = program(0, Machine.code(15, 0, 0, 0, -1));
        tally.due("run(2) to -4", core.run(2), 2);
        tally.due("PCC at -4", core.register(8, 0), -4);
        tally.due("PCC's tag at -4", core.register(8, 2), 0);
        tally.due("wake(255)", core.wake(255), true);
        tally.due("PCC", core.register(8, 0), 1020);
        tally.due("PCC's tag", core.register(8, 2), 1);
        tally.due("EPCC", core.register(10, 0), -4);
        core.poke(255, NOTHING);
        tally.due("run(2) to 1024", core.run(2), 2);
        tally.due("PCC at 1024", core.register(8, 0), 1024);
        tally.due("wake(0)", core.wake(0), true);
        tally.due("PCC at 0", core.register(8, 0), 0);
    }

    private void wakeFromSealedPcc() {
        Machine m = new Machine(tally, "wake from a sealed PCC");
        m.cap(2, 512, 64, Machine.ALL);
        m.sealed(2, 5);
        m.op(29, 0, 2, 0, 1);
        m.flow(31, 0, 0, 0, 0);
        m.due("run(1)", m.run(1), 1);
        m.due("state", m.state(), 2);
        m.wake(7);
        m.dueReg(8, 28, ROOT_META, 1);
        m.dueBounds(8, 0, 1024);
        m.op(1, 3, 0, 0, 1);
    }

    private void wakeRunsTheWord(int word) {
        CapabilityCore core = program(9, HALT);
        core.run(10);
        core.poke(word, Machine.code(1, 2, 0, 0, 99));
        tally.due("wake(" + word + ")", core.wake(word), true);
        tally.due("run(1)", core.run(1), 1);
        tally.due("register 2", core.register(2, 0), 99);
        tally.due("PCC", core.register(8, 0), 4 * word + 4);
    }

    private void wakeRefused() {
        tally.sentence("False if it runs, or there is no such word. (wake)");
        int[] words = {0, 1, 133, 255};
        for (int word : words) {
            running("wake(" + word + ") when it runs").of(c -> flag(c.wake(word)), 0);
        }
        for (int word : NO_WORDS) {
            for (int state = 0; state < 3; state++) {
                new Effect(tally, "wake(" + word + ") in state " + state, scenes.get(state))
                    .of(c -> flag(c.wake(word)), 0);
            }
        }
        CapabilityCore core = program(0, HALT);
        core.run(1);
        tally.due("wake(5)", core.wake(5), true);
        tally.due("wake(6) when woken", core.wake(6), false);
        tally.due("PCC", core.register(8, 0), 20);
        tally.due("steps()", core.steps(), 1);
    }

    private void cause() {
        tally.sentence("CAUSE; 0 if there was no trap.");
        CapabilityCore core = program(2, CALL);
        tally.due("cause() at first", core.cause(), 0);
        core.run(2);
        tally.due("cause() before the trap", core.cause(), 0);
        core.run(1);
        tally.due("cause() of the call", core.cause(), 9);
        core.wake(0);
        core.run(2);
        tally.due("cause() after other steps", core.cause(), 9);
        core.poke(2, Machine.code(11, 0, 0, 0, 0));
        core.run(1);
        tally.due("cause() 1 of register 0", core.cause(), 1);
        core.poke(3, Machine.code(29, 0, 0, 0, 3));
        core.wake(3);
        core.run(1);
        tally.due("cause() 8 of register 8", core.cause(), 136);
        core.poke(4, Machine.code(18, 0, 7, 0, 0));
        core.wake(4);
        core.run(1);
        tally.due("cause() 1 of register 7", core.cause(), 113);
        core.wake(0);
        core.poke(0, HALT);
        core.run(1);
        tally.due("cause() when halted", core.cause(), 113);
        core.run(-1);
        core.wake(256);
        tally.due("cause() after refused calls", core.cause(), 113);
    }

    private void dueCounts(CapabilityCore core, String when, int steps, int traps) {
        tally.due("steps() " + when, core.steps(), steps);
        tally.due("traps() " + when, core.traps(), traps);
    }

    private void stepsAndTraps() {
        tally.sentence("How many steps were made. / How many of them were traps.");
        CapabilityCore core = program(1, CALL);
        dueCounts(core, "at first", 0, 0);
        core.run(0);
        dueCounts(core, "after run(0)", 0, 0);
        core.run(1);
        dueCounts(core, "after run(1)", 1, 0);
        core.run(100);
        dueCounts(core, "with the trap", 2, 1);
        core.run(100);
        dueCounts(core, "when stuck", 2, 1);
        core.wake(2);
        dueCounts(core, "when woken", 2, 1);
        core.run(100);
        dueCounts(core, "with the halt", 3, 1);
        core.run(101);
        core.run(-1);
        dueCounts(core, "after refused ones", 3, 1);
        core.poke(0, Machine.code(15, 0, 0, 0, 256));
        core.wake(0);
        core.run(100);
        dueCounts(core, "with a trap of PCC", 5, 2);
    }

    private void register() {
        tally.sentence("About register r (0 .. 11): what 0 its address, 1 its meta, 2 whether it has a tag (1 or 0).");
        Machine m = Scene.running(tally);
        m.dueReg(0, 0, 0, 0);
        m.dueReg(1, 0, ROOT_META, 1);
        m.dueReg(7, -3, 0, 0);
        m.dueReg(8, Scene.AT, Scene.PCC_META, 1);
        m.dueReg(10, 68, ROOT_META, 1);
        m.dueReg(11, 400, Scene.META_OF_2, 1);
        for (int number : NUMBERS) {
            m.give(7, number);
            m.dueReg(7, number, 0, 0);
        }
        tally.sentence("(Bounds are told without a tag, too.)");
        m.dueReg(6, 400, Scene.META_OF_2, 0);
        m.dueBounds(6, 400, 440);
        m.dueBounds(2, 400, 440);
        m.give(7, 111);
        m.dueBounds(7, 0, 0);
        m.give(7, 112);
        m.dueBounds(7, 128, 128);
        m.give(7, -1);
        m.dueBounds(7, 1L << 32, 1L << 32);
        tally.sentence("NONE if there is no such register or what.");
        tally.due("NONE", CapabilityCore.NONE, -1);
        for (int r : NO_REGISTERS) {
            for (int what = -1; what <= 3; what++) {
                noRegister(r, what);
            }
        }
        int[] noWhats = {-1, 3, 4, -2, 256, 257, MIN, MIN + 1, MAX};
        for (int what : noWhats) {
            for (int r = 0; r < 12; r++) {
                noRegister(r, what);
            }
        }
    }

    private void noRegister(int r, int what) {
        running("register(" + r + ", " + what + ")").of(c -> c.register(r, what), -1);
    }

    private void baseAndTop() {
        tally.sentence("The base of register r / The top of register r");
        Machine m = Scene.running(tally);
        m.dueBounds(0, 0, 0);
        m.dueBounds(1, 0, 1024);
        m.dueBounds(2, 400, 440);
        m.dueBounds(4, 400, 440);
        m.dueBounds(5, 0, 1024);
        m.dueBounds(7, 1L << 32, 1L << 32);
        m.dueBounds(8, 512, 544);
        m.dueBounds(9, 0, 1024);
        m.dueBounds(10, 0, 1024);
        m.dueBounds(11, 400, 440);
        tally.sentence("0 if there is none. (base, top)");
        for (int r : NO_REGISTERS) {
            running("base(" + r + ")").of(c -> c.base(r), 0);
            running("top(" + r + ")").of(c -> c.top(r), 0);
        }
    }

    private void give() {
        tally.sentence("Writes a number into register r (1 .. 7): true");
        for (int state = 0; state < 3; state++) {
            for (int r = 1; r <= 7; r++) {
                int register = r;
                new Effect(tally, "give(" + r + ", 500) in state " + state, scenes.get(state)).number(r, 500)
                    .of(c -> flag(c.give(register, 500)), 1);
            }
        }
        for (int number : NUMBERS) {
            running("give(4, " + number + ")").number(4, number).of(c -> flag(c.give(4, number)), 1);
        }
        tally.sentence("false if there is no such one. (give)");
        int[] specials = {0, 8, 9, 10, 11};
        for (int r : specials) {
            running("give(" + r + ", 500)").of(c -> flag(c.give(r, 500)), 0);
        }
        for (int r : NO_REGISTERS) {
            running("give(" + r + ", 500)").of(c -> flag(c.give(r, 500)), 0);
        }
    }

    private void questionsChangeNothing() {
        tally.sentence("(questions change nothing)");
        for (Supplier<Machine> scene : scenes) {
            new Effect(tally, "peek(0)", scene).of(c -> c.peek(0), 32);
            new Effect(tally, "tagged(0)", scene).of(c -> flag(c.tagged(0)), 1);
            new Effect(tally, "register(1, 1)", scene).of(c -> c.register(1, 1), ROOT_META);
            new Effect(tally, "base(2)", scene).of(c -> c.base(2), 400);
            new Effect(tally, "top(2)", scene).of(c -> c.top(2), 440);
            new Effect(tally, "cause()", scene).of(c -> c.cause(), 9);
        }
        running("state()").of(c -> c.state(), 0);
        running("steps()").of(c -> c.steps(), 23);
        running("traps()").of(c -> c.traps(), 1);
    }

    private void refusedCallsChangeNothing() {
        tally.sentence("A call that is refused changes nothing.");
        int[] wrong = {-1, 256, MIN, MAX};
        for (Supplier<Machine> scene : scenes) {
            for (int n : wrong) {
                new Effect(tally, "poke(" + n + ", 1)", scene).of(c -> flag(c.poke(n, 1)), 0);
                new Effect(tally, "run(" + n + ")", scene).of(c -> c.run(n), -1);
                new Effect(tally, "wake(" + n + ")", scene).of(c -> flag(c.wake(n)), 0);
                new Effect(tally, "give(" + n + ", 1)", scene).of(c -> flag(c.give(n, 1)), 0);
            }
            new Effect(tally, "run(101)", scene).of(c -> c.run(101), -1);
            new Effect(tally, "give(0, 1)", scene).of(c -> flag(c.give(0, 1)), 0);
            new Effect(tally, "give(8, 1)", scene).of(c -> flag(c.give(8, 1)), 0);
        }
        // What it does next is not touched either.
        CapabilityCore core = program(1, HALT);
        core.poke(256, 1);
        core.run(101);
        core.wake(0);
        core.give(0, 1);
        tally.due("run(100) after refused calls", core.run(100), 2);
        core.wake(-1);
        tally.due("run(100) after a refused wake", core.run(100), 0);
    }
}
