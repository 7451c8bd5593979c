import java.util.Map;
import java.util.TreeMap;
import java.util.function.Supplier;
import java.util.function.ToLongFunction;

/**
 * What one call answers and what it changes: every question of the face is asked before and after
 * it, and what is not named here must be as it was. The scene is made anew for each part of them.
 */
final class Effect {
    private static final int WINDOW = 128;

    private final Tally tally;
    private final String name;
    private final Supplier<Machine> scene;
    private final Map<String, Long> values = new TreeMap<>();
    private final Map<String, Long> growth = new TreeMap<>();

    Effect(Tally tally, String name, Supplier<Machine> scene) {
        this.tally = tally;
        this.name = name;
        this.scene = scene;
    }

    /** One step in the scene that is no trap and goes on to the next word, if nothing else is said. */
    static Effect ofStep(Tally tally, String name, int... instructions) {
        return new Effect(tally, name, () -> Scene.before(tally, instructions)).grows("steps()", 1)
            .becomes("register(8, 0)", Scene.AT + 4);
    }

    /** One step in the scene that is a trap with this cause. */
    static Effect ofTrap(Tally tally, String name, int cause, int... instructions) {
        return new Effect(tally, name, () -> Scene.before(tally, instructions)).grows("steps()", 1)
            .grows("traps()", 1).becomes("cause()", cause)
            .register(10, Scene.AT, Scene.PCC_META, 1, 512, 544)
            .register(8, Scene.HANDLER_AT, Scene.ROOT_META, 1, 0, 1024);
    }

    Effect becomes(String question, long value) {
        values.put(question, value);
        return this;
    }

    Effect grows(String question, long by) {
        growth.put(question, by);
        return this;
    }

    Effect register(int r, int address, int meta, int tag, long base, long top) {
        becomes("register(" + r + ", 0)", address);
        becomes("register(" + r + ", 1)", meta);
        becomes("register(" + r + ", 2)", tag);
        becomes("base(" + r + ")", base);
        return becomes("top(" + r + ")", top);
    }

    /** With meta 0 both bounds are the multiple of 128 that is nearest before the address + 16. */
    Effect number(int r, int number) {
        long bound = (Integer.toUnsignedLong(number) + 16) / WINDOW * WINDOW;
        return register(r, number, 0, 0, bound, bound);
    }

    void inOneStep() {
        of(core -> core.run(1), 1);
    }

    void of(ToLongFunction<CapabilityCore> call, long answer) {
        int named = 0;
        for (int part = 0; part < Survey.PARTS; part++) {
            Machine m = scene.get();
            long[] before = Survey.answers(m, part);
            m.called(1);
            tally.due(name, call.applyAsLong(m.core), answer);
            long[] after = Survey.answers(m, part);
            for (int k = 0; k < after.length; k++) {
                String question = Survey.name(part * Survey.QUESTIONS_OF_A_PART + k);
                named += values.containsKey(question) || growth.containsKey(question) ? 1 : 0;
                long want = values.getOrDefault(question, before[k] + growth.getOrDefault(question, 0L));
                tally.due(name + ", then " + question, after[k], want);
            }
        }
        tally.due(name + ": questions named that there are", named, values.size() + growth.size());
    }
}
