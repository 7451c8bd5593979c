/**
 * A core where everything has been used, so that a change anywhere can be seen: no word is 0, the
 * granules 0, 120, 121 and 127 have tags, and all registers differ:
 *
 * <p>1 the root at 0; 2 the bounds 400 .. 440 at 400; 3 the number 77; 4 as 2, sealed with type 5;
 * 5 an entry at 32; 6 as 2 without a tag; 7 the number -3; PCC the bounds 512 .. 544 at 532 (word
 * 133); the HANDLER the root at 768; EPCC the root at 68; the SPARE as 2. The last cause is 9.
 */
final class Scene {
    static final int ROOT_META = 255 | 4 << 12 | 64 << 24;
    static final int META_OF_2 = 255 | 16 << 17 | 56 << 24;
    static final int PCC_META = 255 | 32 << 24;
    static final int AT = 532;
    static final int WORD_AT = AT / 4;
    static final int HANDLER_AT = 768;

    private static final int[] PROGRAM = {
        Machine.code(1, 2, 0, 0, 400), Machine.code(22, 2, 1, 2, 0),
        Machine.code(1, 3, 0, 0, 40), Machine.code(19, 2, 2, 3, 0),
        Machine.code(1, 4, 0, 0, 5), Machine.code(22, 4, 1, 4, 0), Machine.code(23, 4, 2, 4, 0),
        Machine.code(17, 5, 0, 0, 1),
        Machine.code(14, 0, 1, 2, 960), Machine.code(14, 0, 1, 5, 968), Machine.code(14, 0, 1, 4, 1016),
        Machine.code(29, 0, 2, 0, 2),
        Machine.code(1, 6, 0, 0, 512), Machine.code(22, 6, 1, 6, 0),
        Machine.code(1, 7, 0, 0, 32), Machine.code(19, 6, 6, 7, 0), Machine.code(29, 0, 6, 0, 0),
        Machine.code(30, 0, 0, 0, 0)};
    private static final int[] HANDLER = {
        Machine.code(14, 0, 1, 5, 0), Machine.code(1, 6, 0, 0, HANDLER_AT), Machine.code(22, 6, 1, 6, 0),
        Machine.code(29, 0, 6, 0, 0), Machine.code(28, 6, 2, 0, 0)};

    private Scene() {
    }

    static Machine running(Tally tally) {
        Machine m = new Machine(tally, "scene");
        pokeAll(m, 0, PROGRAM);
        pokeAll(m, 128, HANDLER);
        m.due("steps of the scene", m.run(PROGRAM.length + HANDLER.length), PROGRAM.length + HANDLER.length);
        for (int w = 2; w < 254; w++) {
            if (w < 240 || w > 243) {
                m.poke(w, fill(w));
            }
        }
        m.give(3, 77);
        m.give(7, -3);
        return m;
    }

    /** Some number that no other word has, and that is not 0. */
    private static int fill(int word) {
        return 0x01000193 * (word + 7);
    }

    private static void pokeAll(Machine m, int word, int[] values) {
        for (int k = 0; k < values.length; k++) {
            m.poke(word + k, values[k]);
        }
    }

    /** Halted at 532. */
    static Machine halted(Tally tally) {
        Machine m = running(tally);
        m.poke(WORD_AT, 0);
        m.run(1);
        m.poke(WORD_AT, fill(WORD_AT));
        return m;
    }

    /** Stuck at 536, by a call without a handler: that is the number -3 here. */
    static Machine stuck(Tally tally) {
        Machine m = running(tally);
        m.poke(WORD_AT, Machine.code(29, 0, 7, 0, 0));
        m.poke(WORD_AT + 1, Machine.code(30, 0, 0, 0, 0));
        m.run(2);
        m.poke(WORD_AT, fill(WORD_AT));
        m.poke(WORD_AT + 1, fill(WORD_AT + 1));
        return m;
    }

    /** Running, with the last instruction where PCC points and the others done before it. */
    static Machine before(Tally tally, int... instructions) {
        Machine m = running(tally);
        int last = instructions.length - 1;
        for (int k = 0; k < last; k++) {
            done(m, instructions[k]);
        }
        m.poke(WORD_AT, instructions[last]);
        return m;
    }

    /** Does an instruction at 532, and goes back there. */
    static void done(Machine m, int instruction) {
        m.poke(WORD_AT, instruction);
        m.poke(WORD_AT + 1, Machine.code(15, 0, 0, 0, -1));
        m.due("steps before the scene", m.run(2), 2);
    }
}
