import java.util.ArrayDeque;
import java.util.Random;
import java.util.TreeMap;

/**
 * Random runs on the program and on the model: every answer of the face must be the same. Half of
 * the runs let loose whole programs of random words; the others go step by step and choose each
 * instruction by what the registers hold, so that capabilities, seals and special registers are met.
 */
public final class RandomRunsTest {
    private static final int RUNS = 6000;
    private static final int CALLS_BEFORE_COMPARING = 330;
    private static final int[] WRONG_NUMBERS = {-1, Integer.MIN_VALUE, Integer.MAX_VALUE, 256, 128, 12, 101};
    private static final String[] TRAPS = {
        "fetch trap 1 of PCC", "fetch trap 2 of PCC", "fetch trap 3 of PCC", "fetch trap 4 of PCC",
        "fetch trap 5 of PCC", "op 18 trap 1", "op 18 trap 2", "op 18 trap 3", "op 23 trap 1", "op 23 trap 2",
        "op 23 trap 3", "op 23 trap 5", "op 23 trap 7", "op 24 trap 1", "op 24 trap 2", "op 24 trap 3",
        "op 24 trap 5", "op 24 trap 7", "op 29 trap 3 of PCC", "op 29 trap 8 of PCC", "op 30 trap 9",
        "op 31 trap 3 of PCC"};

    private final Tally tally;
    private final Random random = new Random(20261115);
    private final TreeMap<String, Integer> reached = new TreeMap<>();
    private CapabilityCore core;
    private Model model;
    private String run;
    private int calls;
    private final ArrayDeque<Integer> planned = new ArrayDeque<>();

    private RandomRunsTest(Tally tally) {
        this.tally = tally;
    }

    public static void main(String[] args) {
        Tally tally = new Tally("RandomRunsTest");
        RandomRunsTest test = new RandomRunsTest(tally);
        for (int number = 0; number < RUNS && tally.wrong() < 20; number++) {
            test.oneRun(number);
        }
        test.dueReached();
        if (args.length > 0) {
            test.reached.forEach((name, count) -> System.out.println(name + ": " + count));
        }
        tally.end();
    }

    private void oneRun(int number) {
        core = new CapabilityCore();
        model = new Model(reached);
        run = "run " + number + ": ";
        calls = 0;
        planned.clear();
        if (number % 2 == 0) {
            loosePrograms();
        } else {
            chosenSteps();
        }
        compare();
    }

    private void loosePrograms() {
        int length = random.nextInt(200);
        for (int w = 0; w < length; w++) {
            poke(w, word());
        }
        if (random.nextInt(3) != 0) {
            installHandler();
        }
        while (calls < CALLS_BEFORE_COMPARING) {
            change();
        }
    }

    private void installHandler() {
        poke(0, Machine.code(1, 2, 0, 0, 4 * random.nextInt(200)));
        poke(1, Machine.code(22, 2, 1, 2, 0));
        poke(2, Machine.code(29, 0, 2, 0, 0));
        run(3);
    }

    private void chosenSteps() {
        while (calls < CALLS_BEFORE_COMPARING) {
            if (model.state != 0) {
                wake(random.nextInt(256));
            }
            if (planned.isEmpty() && random.nextInt(4) == 0) {
                give(2 + random.nextInt(6), random.nextBoolean() ? smallNumber() : random.nextInt(20));
            }
            int at = model.regs[8].x();
            if (at >= 0 && at < 1024) {
                poke(at / 4, planned.isEmpty() ? chosenInstruction() : planned.remove());
            }
            run(1);
        }
    }

    private int chosenInstruction() {
        if (random.nextInt(20) == 0) {
            planSealing();
        }
        int operation = random.nextInt(8) == 0 ? random.nextInt(11) : 11 + random.nextInt(21);
        int s = chosenRegister(operation == 24, false);
        int t = chosenRegister(false, operation >= 19 && operation <= 22);
        int d = random.nextInt(12) == 0 ? random.nextInt(8) : 2 + random.nextInt(6);
        int i = immediate(operation);
        if (operation >= 11 && operation <= 14 && random.nextInt(10) != 0) {
            i = offsetInto(model.regs[s]);
        }
        if (operation == 29 && i == 1 && random.nextInt(2) == 0) {
            planned.add(Machine.code(31, 0, 0, 0, 0));
        }
        return Machine.code(operation, d, s, t, i);
    }

    /** An authority in register 6, something sealed with it, and at times tried with another one. */
    private void planSealing() {
        int d = 2 + random.nextInt(4);
        planAuthority(random.nextInt(18));
        planned.add(Machine.code(23, d, chosenRegister(false, false), 6, 0));
        if (random.nextInt(3) == 0) {
            planned.add(Machine.code(29, 0, d, 0, random.nextInt(3)));
            planned.add(Machine.code(31, 0, 0, 0, 0));
        } else if (random.nextBoolean()) {
            planAuthority(random.nextInt(18));
        }
        planned.add(Machine.code(oneOf(18, 24, 24, 24), 2 + random.nextInt(6), d, 6, 0));
    }

    private void planAuthority(int type) {
        planned.add(Machine.code(1, 7, 0, 0, type));
        planned.add(Machine.code(22, 6, 1, 7, 0));
        if (random.nextInt(5) == 0) {
            planned.add(Machine.code(oneOf(19, 20), 6, 6, random.nextInt(8), 0));
        }
    }

    private int chosenRegister(boolean sealed, boolean number) {
        int r = random.nextInt(8);
        for (int tries = 0; tries < 12; tries++) {
            Model.Cap c = model.regs[r];
            boolean wanted = number ? !c.tag() : c.tag() && (!sealed || c.type() > 1);
            if (wanted || random.nextInt(12) == 0) {
                break;
            }
            r = random.nextInt(8);
        }
        return r;
    }

    /** From a little before the base to a little behind the top, mostly at a granule. */
    private int offsetInto(Model.Cap c) {
        int length = Math.max(0, Math.min(1024, c.top().subtract(c.base()).intValue()));
        int target = c.base().intValue() - 8 + random.nextInt(length + 16);
        if (random.nextInt(8) != 0) {
            target &= -8;
        }
        return target - c.x();
    }

    private int oneOf(int... choices) {
        return choices[random.nextInt(choices.length)];
    }

    private int smallNumber() {
        return switch (random.nextInt(6)) {
            case 0 -> random.nextInt(16);
            case 1 -> random.nextInt(256);
            case 2 -> 8 * random.nextInt(128);
            case 3 -> -random.nextInt(64);
            case 4 -> random.nextInt() >>> random.nextInt(32);
            default -> 1 << random.nextInt(32);
        };
    }

    private int immediate(int operation) {
        if (operation >= 11 && operation <= 14) {
            return random.nextInt(5) == 0 ? random.nextInt(2048) - 512 : 8 * random.nextInt(24);
        }
        if (operation >= 15 && operation <= 17) {
            return random.nextInt(20) == 0 ? random.nextInt(600) - 100 : random.nextInt(5) + 1;
        }
        if (operation == 25) {
            return random.nextInt(9) - 1;
        }
        if (operation == 29) {
            return random.nextInt(30) == 0 ? oneOf(-1, 3, 100) : random.nextInt(3);
        }
        return random.nextInt(8) == 0 ? random.nextInt() >> 14 : random.nextInt(300) - 20;
    }

    private int word() {
        if (random.nextInt(12) == 0) {
            return random.nextInt();
        }
        if (random.nextInt(12) == 0) {
            return Machine.meta(random.nextInt(256), oneOf(0, 0, 1, 5), random.nextInt(5), random.nextInt(128),
                random.nextInt(128));
        }
        int operation = random.nextInt(32);
        if (operation == 0 && random.nextInt(4) != 0) {
            operation = 13;
        }
        int d = random.nextInt(8);
        if (d == 1 && random.nextInt(8) != 0) {
            d = 0;
        }
        int s = random.nextInt(3) == 0 ? 1 : random.nextInt(8);
        return Machine.code(operation, d, s, random.nextInt(8), immediate(operation));
    }

    private void change() {
        boolean wrong = random.nextInt(40) == 0;
        int number = oneOf(WRONG_NUMBERS);
        switch (random.nextInt(8)) {
            case 0 -> poke(wrong ? number : random.nextInt(256), random.nextInt(3) == 0 ? smallNumber() : word());
            case 1 -> give(wrong ? number : random.nextInt(9), smallNumber());
            case 2, 3 -> wake(wrong ? number : random.nextInt(256));
            case 4 -> bounds(wrong ? number : random.nextInt(12));
            default -> run(wrong ? number : oneOf(0, 1, 2, 5, 20, 100));
        }
    }

    private void poke(int word, int value) {
        calls++;
        tally.due(run + "poke(" + word + ", " + value + ")", core.poke(word, value), model.poke(word, value));
    }

    private void give(int r, int number) {
        calls++;
        tally.due(run + "give(" + r + ", " + number + ")", core.give(r, number), model.give(r, number));
    }

    private void wake(int word) {
        calls++;
        tally.due(run + "wake(" + word + ")", core.wake(word), model.wake(word));
    }

    private void run(int n) {
        calls += 2;
        tally.due(run + "run(" + n + ")", core.run(n), model.run(n));
        tally.due(run + "state()", core.state(), model.state);
    }

    private void bounds(int r) {
        calls += 2;
        boolean known = r >= 0 && r < 12;
        tally.due(run + "base(" + r + ")", core.base(r), known ? model.regs[r].base().longValueExact() : 0);
        tally.due(run + "top(" + r + ")", core.top(r), known ? model.regs[r].top().longValueExact() : 0);
    }

    /** With all registers and a part of memory, so that the 512 calls of an object are enough. */
    private void compare() {
        tally.due(run + "cause()", core.cause(), model.cause);
        tally.due(run + "steps()", core.steps(), model.steps);
        tally.due(run + "traps()", core.traps(), model.traps);
        for (int r = 0; r < 12; r++) {
            tally.due(run + "register(" + r + ", 0)", core.register(r, 0), model.regs[r].x());
            tally.due(run + "register(" + r + ", 1)", core.register(r, 1), model.regs[r].meta());
            tally.due(run + "register(" + r + ", 2)", core.register(r, 2), model.regs[r].tag() ? 1 : 0);
            bounds(r);
        }
        int first = random.nextInt(128);
        for (int k = 0; k < 36; k++) {
            int g = (first + k) % 128;
            tally.due(run + "peek(" + 2 * g + ")", core.peek(2 * g), model.memory[2 * g]);
            tally.due(run + "peek(" + (2 * g + 1) + ")", core.peek(2 * g + 1), model.memory[2 * g + 1]);
            tally.due(run + "tagged(" + g + ")", core.tagged(g), model.tags[g]);
        }
    }

    /** Random runs that never came to a place would prove nothing about it. */
    private void dueReached() {
        for (int operation = 0; operation < 32; operation++) {
            if (operation != 30) {
                dueReached("op " + operation);
            }
        }
        for (int operation = 11; operation <= 14; operation++) {
            for (int trap = 1; trap <= 5; trap++) {
                dueReached("op " + operation + " trap " + trap);
            }
        }
        for (String trap : TRAPS) {
            dueReached(trap);
        }
    }

    private void dueReached(String place) {
        tally.due(place + " is reached", reached.getOrDefault(place, 0) >= 10, true);
    }
}
