import java.math.BigInteger;
import java.util.TreeMap;

/**
 * The document once more, said as plainly as it can be: capabilities that never change, bounds as
 * whole numbers of any size, and a trap as an exception. It is slow, and only the tests use it.
 */
final class Model {
    record Cap(boolean tag, int meta, int x) {
        int field(int from, int bits) {
            return (meta >>> from) & ((1 << bits) - 1);
        }

        int permissions() {
            return field(0, 8);
        }

        int type() {
            return field(8, 4);
        }

        boolean sealed() {
            return type() != 0;
        }

        boolean lacks(int wanted) {
            return (wanted & ~permissions()) != 0;
        }

        BigInteger unit() {
            return BigInteger.TWO.pow(field(12, 5));
        }

        BigInteger inWindow(int units) {
            BigInteger u = unit();
            BigInteger size = u.multiply(whole(128));
            BigInteger a = unsigned(x).divide(u).multiply(u);
            BigInteger v = whole(field(17, 7) - 16).multiply(u);
            // The one number that is not above A and above A - size: go there by whole windows.
            v = v.add(a.subtract(v).subtract(a.subtract(v).mod(size)));
            BigInteger found = v.add(whole(units).multiply(u).subtract(v).mod(size));
            if (v.compareTo(a) > 0 || v.compareTo(a.subtract(size)) <= 0
                || found.compareTo(v) < 0 || found.compareTo(v.add(size)) >= 0) {
                throw new IllegalStateException("the model's window is wrong");
            }
            return found;
        }

        BigInteger base() {
            return inWindow(field(17, 7));
        }

        BigInteger top() {
            return inWindow(field(24, 7));
        }

        Cap withTag(boolean newTag) {
            return new Cap(newTag, meta, x);
        }

        Cap withType(int type) {
            return new Cap(tag, (meta & 0xFFFFF0FF) | type << 8, x);
        }

        Cap moved(int to) {
            Cap there = new Cap(tag, meta, to);
            boolean same = there.base().equals(base()) && there.top().equals(top());
            return there.withTag(tag && !sealed() && same);
        }

        Cap bounded(BigInteger b, BigInteger t) {
            for (int e = 0; ; e++) {
                BigInteger u = BigInteger.TWO.pow(e);
                BigInteger f = b.divide(u);
                BigInteger c = t.add(u).subtract(BigInteger.ONE).divide(u);
                if (c.subtract(f).compareTo(whole(96)) <= 0) {
                    int low = f.mod(whole(128)).intValue();
                    int high = c.mod(whole(128)).intValue();
                    return new Cap(tag, (meta & 0xFFF) | e << 12 | low << 17 | high << 24, x);
                }
            }
        }
    }

    private static final class Trap extends RuntimeException {
        private static final long serialVersionUID = 1L;
        final int cause;

        Trap(int k, int r) {
            super(null, null, false, false);
            cause = k + 16 * r;
        }
    }

    static final Cap NULL = new Cap(false, 0, 0);
    static final Cap ROOT = new Cap(true, 255, 0).bounded(whole(0), whole(1024));

    final Cap[] regs = new Cap[12];
    final int[] memory = new int[256];
    final boolean[] tags = new boolean[128];
    int state = 0;
    int cause = 0;
    int steps = 0;
    int traps = 0;
    /** How often each operation was done, and each trap of an operation taken: what the runs reach. */
    final TreeMap<String, Integer> reached;

    Model(TreeMap<String, Integer> reached) {
        this.reached = reached;
        for (int r = 0; r < 12; r++) {
            regs[r] = r == 1 || r == 8 ? ROOT : NULL;
        }
    }

    static BigInteger whole(long number) {
        return BigInteger.valueOf(number);
    }

    static BigInteger unsigned(int number) {
        return whole(Integer.toUnsignedLong(number));
    }

    boolean poke(int word, int value) {
        if (word < 0 || word > 255) {
            return false;
        }
        memory[word] = value;
        tags[word / 2] = false;
        return true;
    }

    int run(int n) {
        if (n < 0 || n > 100) {
            return -1;
        }
        int made = 0;
        for (; made < n && state == 0; made++) {
            step();
        }
        return made;
    }

    boolean wake(int word) {
        if (state == 0 || word < 0 || word > 255) {
            return false;
        }
        state = 0;
        regs[8] = new Cap(true, ROOT.meta(), 4 * word);
        return true;
    }

    boolean give(int r, int number) {
        if (r < 1 || r > 7) {
            return false;
        }
        regs[r] = number(number);
        return true;
    }

    private static Cap number(int number) {
        return new Cap(false, 0, number);
    }

    private void step() {
        steps++;
        Cap before = regs[8];
        String name = "fetch";
        try {
            check(8, 1, 4, before.x());
            int instruction = memory[before.x() / 4];
            name = "op " + (instruction & 31);
            regs[8] = instruction(instruction);
            reached.merge(name, 1, Integer::sum);
        } catch (Trap trap) {
            traps++;
            cause = trap.cause;
            reached.merge(name + " trap " + trap.cause % 16 + (trap.cause >= 128 ? " of PCC" : ""), 1, Integer::sum);
            regs[10] = before;
            Cap handler = regs[9];
            if (handler.tag() && !handler.sealed() && !handler.lacks(1)) {
                regs[8] = handler;
            } else {
                state = 2;
            }
        }
    }

    private void check(int r, int p, int n, int at) {
        Cap c = regs[r];
        BigInteger x = unsigned(at);
        BigInteger end = x.add(whole(n));
        trapIf(!c.tag(), 1, r);
        trapIf(c.sealed(), 2, r);
        trapIf(c.lacks(p), 3, r);
        trapIf(x.mod(whole(n)).signum() != 0, 4, r);
        trapIf(c.base().compareTo(x) > 0 || end.compareTo(c.top()) > 0, 5, r);
        trapIf(end.compareTo(whole(1024)) > 0, 6, r);
    }

    private static void trapIf(boolean holds, int k, int r) {
        if (holds) {
            throw new Trap(k, r);
        }
    }

    private void set(int d, Cap value) {
        if (d != 0) {
            regs[d] = value;
        }
    }

    /** Does the instruction; answers what PCC is after it. */
    private Cap instruction(int word) {
        int d = word >> 5 & 7;
        int s = word >> 8 & 7;
        int t = word >> 11 & 7;
        int i = word >> 14;
        Cap S = regs[s];
        Cap T = regs[t];
        Cap pcc = regs[8];
        Cap next = pcc.moved(pcc.x() + 4);
        Cap branched = pcc.moved(pcc.x() + 4 * i);
        Cap link = next.withType(1);
        switch (word & 31) {
            case 0 -> {
                state = 1;
                return pcc;
            }
            case 1 -> set(d, number(S.x() + i));
            case 2 -> set(d, number(S.x() + T.x()));
            case 3 -> set(d, number(S.x() - T.x()));
            case 4 -> set(d, number(S.x() & T.x()));
            case 5 -> set(d, number(S.x() | T.x()));
            case 6 -> set(d, number(S.x() ^ T.x()));
            case 7 -> set(d, number(unsigned(S.x()).shiftLeft(Math.floorMod(T.x(), 32)).intValue()));
            case 8 -> set(d, number(unsigned(S.x()).shiftRight(Math.floorMod(T.x(), 32)).intValue()));
            case 9 -> set(d, number(S.x() < T.x() ? 1 : 0));
            case 10 -> set(d, number(i * 16384));
            case 11 -> {
                check(s, 2, 4, S.x() + i);
                set(d, number(memory[(S.x() + i) / 4]));
            }
            case 12 -> {
                check(s, 4, 4, S.x() + i);
                poke((S.x() + i) / 4, T.x());
            }
            case 13 -> {
                check(s, 2, 8, S.x() + i);
                int g = (S.x() + i) / 8;
                set(d, new Cap(tags[g] && !S.lacks(8), memory[2 * g + 1], memory[2 * g]));
            }
            case 14 -> {
                check(s, T.tag() ? 20 : 4, 8, S.x() + i);
                int g = (S.x() + i) / 8;
                memory[2 * g] = T.x();
                memory[2 * g + 1] = T.meta();
                tags[g] = T.tag();
            }
            case 15 -> {
                return S.x() == T.x() ? branched : next;
            }
            case 16 -> {
                return S.x() < T.x() ? branched : next;
            }
            case 17 -> {
                set(d, link);
                return branched;
            }
            case 18 -> {
                trapIf(!S.tag(), 1, s);
                trapIf(S.sealed() && S.type() != 1, 2, s);
                trapIf(S.lacks(1), 3, s);
                set(d, link);
                return S.withType(0);
            }
            case 31 -> {
                trapIf(pcc.lacks(128), 3, 8);
                return regs[10].type() == 1 ? regs[10].withType(0) : regs[10];
            }
            default -> capabilityInstruction(word & 31, d, s, t, i);
        }
        return next;
    }

    private void capabilityInstruction(int operation, int d, int s, int t, int i) {
        Cap S = regs[s];
        Cap T = regs[t];
        switch (operation) {
            case 19 -> {
                Cap made = S.bounded(unsigned(S.x()), unsigned(S.x()).add(unsigned(T.x())));
                boolean outside = made.base().compareTo(S.base()) < 0 || made.top().compareTo(S.top()) > 0;
                set(d, made.withTag(S.tag() && !S.sealed() && !outside));
            }
            case 20 -> set(d, new Cap(S.tag() && !S.sealed(), S.meta() & (0xFFFFFF00 | T.x()), S.x()));
            case 21 -> set(d, S.moved(S.x() + T.x()));
            case 22 -> set(d, S.moved(T.x()));
            case 23 -> {
                trapIf(!S.tag(), 1, s);
                trapIf(S.sealed(), 2, s);
                check(t, 32, 1, T.x());
                trapIf(T.x() < 2 || T.x() > 15, 7, t);
                set(d, S.withType(T.x()));
            }
            case 24 -> {
                trapIf(!S.tag(), 1, s);
                trapIf(!S.sealed() || S.type() == 1, 2, s);
                check(t, 64, 1, T.x());
                trapIf(T.x() != S.type(), 7, t);
                set(d, S.withType(0));
            }
            case 25 -> set(d, number(switch (i) {
                case 0 -> S.base().intValue();
                case 1 -> S.top().subtract(S.base()).intValue();
                case 2 -> S.permissions();
                case 3 -> S.type();
                case 4 -> S.tag() ? 1 : 0;
                case 5 -> S.x();
                case 6 -> S.meta();
                default -> 0;
            }));
            case 26 -> set(d, T.withTag(S.tag() && !S.sealed() && T.base().compareTo(S.base()) >= 0
                && T.base().compareTo(T.top()) <= 0 && T.top().compareTo(S.top()) <= 0
                && !S.lacks(T.permissions()) && !T.sealed()));
            case 27 -> set(d, S);
            case 28 -> set(d, S.withTag(false));
            case 29 -> {
                trapIf(regs[8].lacks(128), 3, 8);
                trapIf(i < 0 || i > 2, 8, 8);
                set(d, regs[9 + i]);
                if (s != 0) {
                    regs[9 + i] = S;
                }
            }
            case 30 -> throw new Trap(9, 0);
            default -> throw new IllegalStateException("no operation " + operation);
        }
    }
}
