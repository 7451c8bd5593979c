/** Every question of the face about the state, by number, in parts that fit twice into 512 calls. */
final class Survey {
    static final int PARTS = 8;
    static final int QUESTIONS_OF_A_PART = 56;

    private static final int TAGS = 256;
    private static final int REGISTERS = TAGS + 128;
    private static final int BASES = REGISTERS + 36;
    private static final int TOPS = BASES + 12;
    private static final int OTHERS = TOPS + 12;
    private static final String[] OTHER_NAMES = {"state()", "cause()", "steps()", "traps()"};

    private Survey() {
    }

    static String name(int question) {
        if (question < TAGS) {
            return "peek(" + question + ")";
        }
        if (question < REGISTERS) {
            return "tagged(" + (question - TAGS) + ")";
        }
        if (question < BASES) {
            int n = question - REGISTERS;
            return "register(" + n / 3 + ", " + n % 3 + ")";
        }
        if (question < TOPS) {
            return "base(" + (question - BASES) + ")";
        }
        return question < OTHERS ? "top(" + (question - TOPS) + ")" : OTHER_NAMES[question - OTHERS];
    }

    private static long answer(CapabilityCore core, int question) {
        if (question < TAGS) {
            return core.peek(question);
        }
        if (question < REGISTERS) {
            return core.tagged(question - TAGS) ? 1 : 0;
        }
        if (question < BASES) {
            int n = question - REGISTERS;
            return core.register(n / 3, n % 3);
        }
        if (question < TOPS) {
            return core.base(question - BASES);
        }
        if (question < OTHERS) {
            return core.top(question - TOPS);
        }
        return switch (question - OTHERS) {
            case 0 -> core.state();
            case 1 -> core.cause();
            case 2 -> core.steps();
            default -> core.traps();
        };
    }

    static long[] answers(Machine m, int part) {
        m.called(QUESTIONS_OF_A_PART);
        long[] answers = new long[QUESTIONS_OF_A_PART];
        for (int k = 0; k < QUESTIONS_OF_A_PART; k++) {
            answers[k] = answer(m.core, part * QUESTIONS_OF_A_PART + k);
        }
        return answers;
    }
}
