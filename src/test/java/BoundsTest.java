import java.math.BigInteger;
import java.util.Random;

/** The terms BOUNDS, BOUND and MOVE against the model's whole numbers of any size. */
public final class BoundsTest {
    private static final int[] ADDRESSES = {0, 1, 15, 16, 127, 128, 1023, 1024, 1791, 1792,
        Integer.MAX_VALUE, Integer.MIN_VALUE, -1792, -129, -128, -16, -1};
    private static final int[] LENGTHS = {0, 1, 95, 96, 97, 98, 191, 192, 193, 194, 255, 1024, 1 << 20,
        Integer.MAX_VALUE, Integer.MIN_VALUE, 0xBFFFFFFF, 0xC0000000, 0xC0000001, -2, -1};

    private final Tally tally;

    private BoundsTest(Tally tally) {
        this.tally = tally;
    }

    public static void main(String[] args) {
        Tally tally = new Tally("BoundsTest");
        BoundsTest test = new BoundsTest(tally);
        test.namedBounds();
        test.edgesOfBounds();
        test.randomBounds();
        test.bounding();
        test.moving();
        test.movingAtTheWindowsEdges();
        tally.end();
    }

    /** Worked out by hand, so that they do not rest on the model. */
    private void namedBounds() {
        Machine m = new Machine(tally, "named bounds");
        m.raw(2, 0, Machine.meta(0, 0, 0, 100, 120));
        m.dueBounds(2, -28, -8);
        m.raw(2, -1, Machine.meta(0, 0, 0, 5, 3));
        m.dueBounds(2, 4294967296L + 5, 4294967296L + 3);
        m.raw(2, 0, Machine.meta(0, 0, 31, 127, 0));
        m.dueBounds(2, -(1L << 31), 0);
        m.raw(2, -1, Machine.meta(0, 0, 31, 17, 16));
        m.dueBounds(2, 17L << 31, 16L << 31);
        m.raw(2, 0, Machine.meta(0, 0, 0, 17, 0));
        m.dueBounds(2, 17 - 128, 0);
        m.raw(2, 120, 0);
        m.dueBounds(2, 128, 128);
        m.raw(2, 111, 1 << 31);
        m.dueBounds(2, 0, 0);
    }

    private void bounds(Machine m, int address, int meta) {
        Model.Cap want = new Model.Cap(false, meta, address);
        m.raw(2, address, meta);
        m.dueReg(2, address, meta, 0);
        m.dueBounds(2, want.base().longValueExact(), want.top().longValueExact());
        m.op(25, 3, 2, 0, 0);
        m.dueNumber(3, want.base().intValue());
        m.op(25, 3, 2, 0, 1);
        m.dueNumber(3, want.top().subtract(want.base()).intValue());
    }

    private void edgesOfBounds() {
        int[] units = {0, 1, 15, 16, 17, 64, 112, 127};
        for (int e = 0; e < 32; e += e == 1 ? 14 : e == 15 ? 15 : 1) {
            for (int b : units) {
                for (int t : units) {
                    for (int n = 0; n < ADDRESSES.length; n += 9) {
                        Machine m = new Machine(tally, "edges of bounds");
                        for (int k = n; k < n + 9 && k < ADDRESSES.length; k++) {
                            bounds(m, ADDRESSES[k], Machine.meta(255, 15, e, b, t));
                        }
                    }
                }
            }
        }
    }

    private void randomBounds() {
        Random random = new Random(1);
        for (int n = 0; n < 400; n++) {
            Machine m = new Machine(tally, "random bounds");
            for (int k = 0; k < 9; k++) {
                bounds(m, random.nextInt() >>> random.nextInt(32), random.nextInt());
            }
        }
    }

    private void bound(Machine m, int address, int length) {
        m.raw(2, address, 0x80000A5A);
        m.give(3, length);
        m.op(19, 4, 2, 3, 0);
        BigInteger from = Model.unsigned(address);
        Model.Cap want = new Model.Cap(false, 0xA5A, address).bounded(from, from.add(Model.unsigned(length)));
        m.dueReg(4, address, want.meta(), 0);
        m.dueBounds(4, want.base().longValueExact(), want.top().longValueExact());
    }

    private void bounding() {
        for (int address : ADDRESSES) {
            Machine m = new Machine(tally, "bounding");
            for (int length : LENGTHS) {
                bound(m, address, length);
            }
        }
        Random random = new Random(2);
        for (int n = 0; n < 400; n++) {
            Machine m = new Machine(tally, "random bounding");
            for (int k = 0; k < 20; k++) {
                bound(m, random.nextInt() >>> random.nextInt(32), random.nextInt() >>> random.nextInt(32));
            }
        }
    }

    private void moving() {
        Random random = new Random(3);
        for (int n = 0; n < 300; n++) {
            Machine m = new Machine(tally, "moving");
            int base = random.nextInt(96) * 8;
            int length = 1 + random.nextInt(random.nextBoolean() ? 96 : 200);
            m.give(2, base);
            m.op(22, 3, 1, 2, 0);
            m.give(2, length);
            m.op(19, 3, 3, 2, 0);
            Model.Cap from = new Model.Cap(true, Model.ROOT.meta(), base)
                .bounded(Model.whole(base), Model.whole(base + length));
            m.dueReg(3, base, from.meta(), 1);
            for (int k = 0; k < 16; k++) {
                int to = base - 600 + random.nextInt(1600);
                Model.Cap want = from.moved(to);
                m.give(2, to);
                m.op(22, 4, 3, 2, 0);
                m.dueReg(4, to, from.meta(), want.tag() ? 1 : 0);
                m.give(2, to - base);
                m.op(21, 4, 3, 2, 0);
                m.dueReg(4, to, from.meta(), want.tag() ? 1 : 0);
            }
        }
    }

    private void moveTo(Machine m, int s, int to, int tag) {
        m.give(2, to);
        m.op(22, 4, s, 2, 0);
        m.due("address of " + s + " moved to " + to, m.reg(4, 0), to);
        m.due("tag of " + s + " moved to " + to, m.reg(4, 2), tag);
    }

    private void movingAtTheWindowsEdges() {
        Machine m = new Machine(tally, "moving at the window's edges");
        moveTo(m, 1, 1791, 1);
        m.dueBounds(4, 0, 1024);
        moveTo(m, 1, 1792, 0);
        m.dueBounds(4, 2048, 3072);
        moveTo(m, 1, -1, 0);
        moveTo(m, 1, 1 << 31, 0);
        m.cap(3, 400, 40, Machine.ALL);
        moveTo(m, 3, 383, 0);
        m.dueBounds(4, 272, 312);
        moveTo(m, 3, 384, 1);
        moveTo(m, 3, 511, 1);
        moveTo(m, 3, 512, 0);
        m.dueBounds(4, 528, 568);
        // What has lost its tag does not get it again on the way back.
        m.give(2, 400);
        m.op(22, 4, 4, 2, 0);
        m.dueReg(4, 400, m.reg(3, 1), 0);
        // A sealed one loses its tag even where it stays.
        m.sealed(3, 5);
        m.due("tag of the sealed one", m.reg(3, 2), 1);
        moveTo(m, 3, 400, 0);
        m.due("type of the sealed one", m.reg(4, 1) >> 8 & 15, 5);
    }
}
