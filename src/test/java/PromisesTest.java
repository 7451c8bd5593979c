/** Each promise by its number: ordinary inputs, the edges that the document names, wrong inputs. */
public final class PromisesTest {
    private static final int ROOT_META = 255 | 4 << 12 | 64 << 24;
    private static final int HALT = 0;
    private static final int CALL = 30;
    private static final int[] NO_WORDS = {-1, 256, 257, Integer.MIN_VALUE, Integer.MAX_VALUE};
    private static final int[] NO_REGISTERS = {-1, 12, 13, Integer.MIN_VALUE, Integer.MAX_VALUE};

    private final Tally tally;

    private PromisesTest(Tally tally) {
        this.tally = tally;
    }

    public static void main(String[] args) {
        Tally tally = new Tally("PromisesTest");
        PromisesTest test = new PromisesTest(tally);
        test.promise1newObject();
        test.promise2poke();
        test.promise3peek();
        test.promise4tagged();
        test.promise5run();
        test.promise6state();
        test.promise7wake();
        test.promise7wakeLeavesAllElse();
        test.promise8cause();
        test.promises9and10stepsAndTraps();
        test.promise11register();
        test.promises12and13baseAndTop();
        test.promise14give();
        test.refusedCallsChangeNothing();
        test.objectsAreApart();
        tally.end();
    }

    private static int addTo(int d, int s, int i) {
        return Machine.code(1, d, s, 0, i);
    }

    private void dueRegister(CapabilityCore core, int r, int address, int meta, int tag) {
        tally.due("register(" + r + ", 0)", core.register(r, 0), address);
        tally.due("register(" + r + ", 1)", core.register(r, 1), meta);
        tally.due("register(" + r + ", 2)", core.register(r, 2), tag);
    }

    private void promise1newObject() {
        CapabilityCore core = new CapabilityCore();
        for (int w = 0; w < 256; w++) {
            tally.due("new: peek(" + w + ")", core.peek(w), 0);
        }
        for (int g = 0; g < 128; g++) {
            tally.due("new: tagged(" + g + ")", core.tagged(g), false);
        }
        for (int r = 0; r < 12; r++) {
            boolean root = r == 1 || r == 8;
            dueRegister(core, r, 0, root ? ROOT_META : 0, root ? 1 : 0);
            tally.due("new: base(" + r + ")", core.base(r), 0);
            tally.due("new: top(" + r + ")", core.top(r), root ? 1024 : 0);
        }
        tally.due("new: state()", core.state(), 0);
        tally.due("new: cause()", core.cause(), 0);
        tally.due("new: steps()", core.steps(), 0);
        tally.due("new: traps()", core.traps(), 0);
    }

    private void promise2poke() {
        CapabilityCore core = new CapabilityCore();
        tally.due("poke(0, 7)", core.poke(0, 7), true);
        tally.due("poke(255, MIN)", core.poke(255, Integer.MIN_VALUE), true);
        tally.due("peek(0) after poke", core.peek(0), 7);
        tally.due("peek(255) after poke", core.peek(255), Integer.MIN_VALUE);
        for (int word : NO_WORDS) {
            tally.due("poke(" + word + ")", core.poke(word, 1), false);
        }
        pokeTakesTheTag(100, 50);
        pokeTakesTheTag(101, 50);
        pokeTakesTheTag(255, 127);
    }

    /** Granules g - 1, g and, where there is one, g + 1 hold register 1; only g loses its tag. */
    private void pokeTakesTheTag(int word, int granule) {
        CapabilityCore core = new CapabilityCore();
        int last = Math.min(granule + 1, 127);
        for (int g = granule - 1; g <= last; g++) {
            core.poke(g - granule + 1, Machine.code(14, 0, 1, 1, 8 * g));
        }
        core.run(last - granule + 2);
        tally.due("tagged before poke(" + word + ")", core.tagged(granule), true);
        int other = core.peek(word ^ 1);
        tally.due("poke(" + word + ")", core.poke(word, core.peek(word)), true);
        tally.due("tagged after poke(" + word + ")", core.tagged(granule), false);
        tally.due("tagged before it", core.tagged(granule - 1), true);
        if (last > granule) {
            tally.due("tagged behind it", core.tagged(last), true);
        }
        tally.due("the other word after poke(" + word + ")", core.peek(word ^ 1), other);
    }

    private void promise3peek() {
        CapabilityCore core = new CapabilityCore();
        for (int w = 0; w < 256; w++) {
            core.poke(w, 3 * w - 299);
        }
        // Not all of them: an object is used for 512 calls.
        for (int w = 0; w < 256; w += w == 64 ? 128 : 1) {
            tally.due("peek(" + w + ")", core.peek(w), 3 * w - 299);
        }
        for (int word : NO_WORDS) {
            tally.due("peek(" + word + ")", core.peek(word), 0);
        }
    }

    private void promise4tagged() {
        CapabilityCore core = new CapabilityCore();
        core.poke(0, Machine.code(14, 0, 1, 1, 1016));
        core.poke(1, Machine.code(14, 0, 1, 1, 16));
        core.poke(2, Machine.code(14, 0, 1, 1, 0));
        core.run(3);
        for (int g = 0; g < 128; g++) {
            tally.due("tagged(" + g + ")", core.tagged(g), g == 0 || g == 2 || g == 127);
        }
        int[] none = {-1, 128, 129, Integer.MIN_VALUE, Integer.MAX_VALUE};
        for (int granule : none) {
            tally.due("tagged(" + granule + ")", core.tagged(granule), false);
        }
    }

    private void promise5run() {
        CapabilityCore core = new CapabilityCore();
        for (int w = 0; w < 150; w++) {
            core.poke(w, addTo(2, 2, 1));
        }
        int[] refused = {-1, 101, Integer.MIN_VALUE, Integer.MAX_VALUE};
        for (int n : refused) {
            tally.due("run(" + n + ")", core.run(n), -1);
            tally.due("steps after run(" + n + ")", core.steps(), 0);
        }
        tally.due("run(0)", core.run(0), 0);
        tally.due("run(1)", core.run(1), 1);
        tally.due("register 2 after run(1)", core.register(2, 0), 1);
        tally.due("run(100)", core.run(100), 100);
        tally.due("register 2 after run(100)", core.register(2, 0), 101);
        tally.due("run(100) to the halt", core.run(100), 50);
        tally.due("register 2 at the halt", core.register(2, 0), 150);
        tally.due("run(100) when halted", core.run(100), 0);
        tally.due("run(101) when halted", core.run(101), -1);
        core.poke(0, CALL);
        core.wake(0);
        tally.due("run(100) to be stuck", core.run(100), 1);
        tally.due("run(1) when stuck", core.run(1), 0);
    }

    private void promise6state() {
        CapabilityCore core = new CapabilityCore();
        core.poke(0, addTo(2, 0, 1));
        core.poke(1, HALT);
        core.poke(2, CALL);
        core.run(1);
        tally.due("state() when it runs", core.state(), 0);
        core.run(1);
        tally.due("state() when halted", core.state(), 1);
        core.wake(2);
        tally.due("state() when woken", core.state(), 0);
        core.run(1);
        tally.due("state() when stuck", core.state(), 2);
    }

    private void promise7wake() {
        CapabilityCore core = new CapabilityCore();
        tally.due("wake(0) when it runs", core.wake(0), false);
        core.poke(255, HALT);
        core.run(1);
        for (int word : NO_WORDS) {
            tally.due("wake(" + word + ")", core.wake(word), false);
            tally.due("state after wake(" + word + ")", core.state(), 1);
            tally.due("PCC after wake(" + word + ")", core.register(8, 0), 0);
        }
        tally.due("wake(255)", core.wake(255), true);
        dueRegister(core, 8, 1020, ROOT_META, 1);
        tally.due("base(8)", core.base(8), 0);
        tally.due("top(8)", core.top(8), 1024);
        tally.due("wake(0) when woken", core.wake(0), false);
        tally.due("PCC after a refused wake", core.register(8, 0), 1020);
        tally.due("run(1)", core.run(1), 1);
        tally.due("wake(0)", core.wake(0), true);
        dueRegister(core, 8, 0, ROOT_META, 1);
    }

    /** PCC has fewer permissions and smaller bounds before it is woken; nothing else comes back. */
    private void promise7wakeLeavesAllElse() {
        Machine m = new Machine(tally, "wake");
        m.cap(2, 512, 64, 3);
        m.op(14, 0, 1, 1, 800);
        m.op(29, 0, 1, 0, 2);
        m.flow(18, 3, 2, 0, 0);
        m.dueReg(8, 512, m.reg(2, 1), 1);
        m.trap(9, 30, 0, 0, 0, 0);
        m.dueReg(8, 516, ROOT_META, 1);
        m.due("cause", m.cause(), 9);
        m.due("traps", m.traps(), 1);
        m.due("EPCC", m.reg(10, 0), 512);
        m.due("EPCC's meta", m.reg(10, 1), m.reg(2, 1));
        m.dueReg(11, 0, ROOT_META, 1);
        m.due("tagged(100)", m.tagged(100) ? 1 : 0, 1);
        m.give(1, 5);
        m.flow(0, 0, 0, 0, 0);
        m.wake(3);
        m.dueReg(8, 12, ROOT_META, 1);
        m.dueNumber(1, 5);
    }

    private void promise8cause() {
        CapabilityCore core = new CapabilityCore();
        core.poke(0, addTo(2, 0, 0));
        core.poke(1, CALL);
        core.poke(2, Machine.code(11, 3, 7, 0, 0));
        core.run(1);
        tally.due("cause() without a trap", core.cause(), 0);
        core.run(1);
        tally.due("cause() of a call", core.cause(), 9);
        core.wake(2);
        tally.due("cause() when woken", core.cause(), 9);
        core.run(1);
        tally.due("cause() of a load by a number in 7", core.cause(), 1 + 16 * 7);
        core.wake(3);
        core.run(1);
        tally.due("cause() after a halt", core.cause(), 1 + 16 * 7);
    }

    private void promises9and10stepsAndTraps() {
        CapabilityCore core = new CapabilityCore();
        core.poke(0, addTo(2, 0, 0));
        core.poke(1, CALL);
        core.poke(3, Machine.code(29, 0, 1, 0, 0));
        core.poke(4, Machine.code(15, 0, 0, 0, -4));
        core.run(1);
        tally.due("steps() after one", core.steps(), 1);
        tally.due("traps() after none", core.traps(), 0);
        core.run(10);
        tally.due("steps() with a trap", core.steps(), 2);
        tally.due("traps() after one", core.traps(), 1);
        core.run(10);
        tally.due("steps() when stuck", core.steps(), 2);
        core.wake(2);
        core.run(10);
        tally.due("steps() with a halt", core.steps(), 3);
        tally.due("traps() after a halt", core.traps(), 1);
        core.wake(3);
        core.run(100);
        tally.due("steps() through a handler", core.steps(), 103);
        tally.due("traps() through a handler", core.traps(), 1 + 49);
        core.run(101);
        core.run(0);
        tally.due("steps() after refused ones", core.steps(), 103);
    }

    private void promise11register() {
        CapabilityCore core = new CapabilityCore();
        core.give(7, -5);
        dueRegister(core, 7, -5, 0, 0);
        dueRegister(core, 1, 0, ROOT_META, 1);
        for (int r : NO_REGISTERS) {
            for (int what = 0; what < 3; what++) {
                tally.due("register(" + r + ", " + what + ")", core.register(r, what), CapabilityCore.NONE);
            }
        }
        int[] noWhat = {-1, 3, Integer.MIN_VALUE, Integer.MAX_VALUE};
        for (int what : noWhat) {
            tally.due("register(1, " + what + ")", core.register(1, what), CapabilityCore.NONE);
            tally.due("register(12, " + what + ")", core.register(12, what), CapabilityCore.NONE);
        }
        Machine m = new Machine(tally, "register");
        m.cap(2, 64, 32, 3);
        for (int i = 0; i < 3; i++) {
            m.op(29, 0, 2, 0, i);
        }
        for (int r = 9; r < 12; r++) {
            m.dueReg(r, 64, Machine.meta(3, 0, 0, 64, 96), 1);
        }
        m.raw(3, 17, -1);
        m.dueReg(3, 17, -1, 0);
    }

    private void promises12and13baseAndTop() {
        Machine m = new Machine(tally, "base and top");
        m.cap(2, 400, 40, 3);
        m.dueBounds(2, 400, 440);
        m.op(28, 2, 2, 0, 0);
        m.dueBounds(2, 400, 440);
        m.op(29, 0, 2, 0, 2);
        m.dueBounds(11, 400, 440);
        m.dueBounds(8, 0, 1024);
        m.raw(3, 0, Machine.meta(0, 0, 0, 100, 90));
        m.dueBounds(3, -28, -38);
        m.raw(3, -1, Machine.meta(0, 0, 4, 3, 10));
        m.dueBounds(3, (1L << 32) + 48, (1L << 32) + 160);
        m.give(3, 112);
        m.dueBounds(3, 128, 128);
        for (int r : NO_REGISTERS) {
            m.dueBounds(r, 0, 0);
        }
    }

    private void promise14give() {
        CapabilityCore core = new CapabilityCore();
        for (int r = 1; r < 8; r++) {
            tally.due("give(" + r + ")", core.give(r, 1000 * r), true);
        }
        for (int r = 1; r < 8; r++) {
            dueRegister(core, r, 1000 * r, 0, 0);
        }
        int[] none = {0, 8, 9, 10, 11, 12, -1, Integer.MIN_VALUE, Integer.MAX_VALUE};
        for (int r : none) {
            tally.due("give(" + r + ")", core.give(r, 77), false);
        }
        dueRegister(core, 0, 0, 0, 0);
        dueRegister(core, 8, 0, ROOT_META, 1);
        for (int r = 9; r < 12; r++) {
            dueRegister(core, r, 0, 0, 0);
        }
        core.run(1);
        tally.due("give(2, MIN) when halted", core.give(2, Integer.MIN_VALUE), true);
        dueRegister(core, 2, Integer.MIN_VALUE, 0, 0);
        tally.due("state after give", core.state(), 1);
    }

    private void refusedCallsChangeNothing() {
        CapabilityCore core = new CapabilityCore();
        for (int number : NO_WORDS) {
            core.poke(number, 9);
            core.wake(number);
            core.give(number, 9);
            core.run(number);
        }
        core.wake(3);
        for (int r = 0; r < 12; r++) {
            boolean root = r == 1 || r == 8;
            dueRegister(core, r, 0, root ? ROOT_META : 0, root ? 1 : 0);
        }
        for (int w = 0; w < 256; w++) {
            tally.due("peek(" + w + ") after refused calls", core.peek(w), 0);
        }
        tally.due("steps after refused calls", core.steps(), 0);
        tally.due("state after refused calls", core.state(), 0);
    }

    private void objectsAreApart() {
        CapabilityCore one = new CapabilityCore();
        CapabilityCore other = new CapabilityCore();
        one.poke(0, Machine.code(14, 0, 1, 1, 80));
        one.give(4, 4);
        one.run(100);
        tally.due("one: tagged(10)", one.tagged(10), true);
        tally.due("other: tagged(10)", other.tagged(10), false);
        tally.due("other: peek(0)", other.peek(0), 0);
        tally.due("other: register(4, 0)", other.register(4, 0), 0);
        tally.due("other: steps()", other.steps(), 0);
        tally.due("other: state()", other.state(), 0);
    }
}
