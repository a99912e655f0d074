/** 'Terms', sentence by sentence at the edges: shifts, searches, turned bytes and single bits. */
public final class EdgesOfBitsTest {
    private static final int[] SIZES = {1, 4, 8};

    public static void main(String[] args) {
        for (int size : SIZES) {
            shiftsByY(size);
            shiftsByOne(size);
        }
        searches();
        turnedBytes();
        bitsOfX();
        Due.end();
    }

    private static Rig shifted(int op, int size, long before, long x, int by) {
        Rig rig = Edge.given(op, size, before, x, 0).num(1, by);
        rig.step("op " + op + " by " + by, 0);
        return rig;
    }

    private static void shift(int op, int size, long x, int by, long result, boolean carry) {
        for (long before : new long[] {0, Edge.ALL}) {
            String what = "op " + op + " size " + size + " of " + x + " by " + by;
            Rig rig = shifted(op, size, before, x, by);
            rig.register(what, 3, Edge.written(Edge.OTHERS, result, size));
            long named = op >= 26 ? Edge.ZSP | Rig.C : Rig.C;
            long after = (carry ? Rig.C : 0) | (op >= 26 ? Edge.zsp(result, size) : 0);
            Due.equal(what + ": flags", rig.m.register(17) & ~(by == 1 ? Rig.O : 0), 2 | before & ~named & ~(by == 1 ? Rig.O : 0) | after);
        }
    }

    private static void shiftsByY(int size) {
        int n = 8 * size;
        int round = size == 8 ? 64 : 32;
        long m = Samples.mask(size);
        long t = Edge.top(size);
        Due.about("24 to 28, by y taken mod 64 with 8 bytes, else mod 32, size " + size);
        for (int op = 24; op <= 28; op++) {
            for (int by : new int[] {0, round, 2 * round, 255 / round * round}) {
                Rig rig = shifted(op, size, Edge.ALL, t | 5, by);
                rig.register("by " + by + " nothing changes", 3, Edge.OTHERS & ~m | t | 5);
                rig.flags("by " + by + " nothing changes", Edge.ALL);
                rig = shifted(op, size, 0, t | 5, by);
                rig.flags("by " + by + " nothing changes", 0);
            }
            for (int by = 1; by + round <= 255; by++) {
                Rig once = shifted(op, size, 0, t | 5, by % round);
                Rig round1 = shifted(op, size, 0, t | 5, by + round);
                round1.register("op " + op + " by " + (by + round), 3, once.m.register(3));
                Due.equal("op " + op + " by " + (by + round), round1.m.register(17), once.m.register(17));
            }
            Rig byRegister = Edge.given(op, size, 0, t | 5, 0).reg(1, 1).put(1, 0x7f00L + round + 3);
            byRegister.step("by rcx", 0);
            byRegister.register("by rcx's lowest byte", 3, shifted(op, size, 0, t | 5, 3).m.register(3));
        }
        Due.about("24 up, 25 down with the bit that goes out coming in at the other end, size " + size);
        shift(24, size, t, 1, 1, true);
        shift(24, size, t - 1, 1, m - 1, false);
        shift(24, size, 1, n - 1, t, false);
        shift(24, size, 2, n - 1, 1, true);
        shift(25, size, 1, 1, t, true);
        shift(25, size, m - 1, 1, t - 1, false);
        shift(25, size, t, n - 1, 1, false);
        shift(25, size, t >>> 1, n - 1, t, true);
        Due.about("26 up, 27 down with 0 coming in, 28 down, the upper bit staying: C is the bit that went out last, size " + size);
        shift(26, size, 1, n - 1, t, false);
        shift(26, size, 2, n - 1, 0, true);
        shift(26, size, m, 1, m - 1, true);
        shift(27, size, t, n - 1, 1, false);
        shift(27, size, t >>> 1, n - 1, 0, true);
        shift(27, size, m, 1, t - 1, true);
        shift(28, size, t, n - 1, m, false);
        shift(28, size, t >>> 1, n - 1, 0, true);
        shift(28, size, m - 1, 1, m, false);
        if (size == 1) {
            Due.about("bit by bit: a byte by more than its bits");
            shift(24, 1, 0x81, 8, 0x81, true);
            shift(24, 1, 0x7e, 8, 0x7e, false);
            shift(24, 1, 0x81, 31, 0xc0, false);
            shift(25, 1, 0x81, 8, 0x81, true);
            shift(25, 1, 0x7e, 16, 0x7e, false);
            shift(25, 1, 0x81, 31, 0x03, false);
            shift(26, 1, 1, 8, 0, true);
            shift(26, 1, 0xff, 9, 0, false);
            shift(26, 1, 0xff, 31, 0, false);
            shift(27, 1, 0x80, 8, 0, true);
            shift(27, 1, 0xff, 9, 0, false);
            shift(28, 1, 0x80, 8, 0xff, true);
            shift(28, 1, 0x80, 31, 0xff, true);
            shift(28, 1, 0x7f, 9, 0, false);
        }
    }

    private static void shiftsByOne(int size) {
        long m = Samples.mask(size);
        long t = Edge.top(size);
        long second = t >>> 1;
        long[] values = {0, m, t, second, t | second, 1, t | 1, m ^ t, m ^ second, m ^ t ^ second};
        for (int op = 24; op <= 28; op++) {
            Due.about("By 1: O, op " + op + " size " + size);
            for (long x : values) {
                boolean up = (x & t) != 0;
                boolean next = (x & second) != 0;
                boolean low = (x & 1) != 0;
                boolean[] due = {up != next, low != up, up != next, up, false};
                for (int by : new int[] {1, size == 8 ? 65 : 33}) {
                    for (long before : new long[] {0, Edge.ALL}) {
                        Rig rig = shifted(op, size, before, x, by);
                        Due.equal("O of " + x + " by " + by, rig.m.register(17) & Rig.O, due[op - 24] ? Rig.O : 0);
                    }
                }
                for (long before : new long[] {0, Edge.ALL}) {
                    Rig rig = shifted(op, size, before, x, 2);
                    Due.equal("O stays by 2", rig.m.register(17) & Rig.O, before & Rig.O);
                }
            }
        }
    }

    private static void searches() {
        Due.about("44, 45: Z is y = 0; if it is not, x is the number of its lowest, highest bit that is 1, else it stays");
        for (int size : new int[] {4, 8}) {
            for (int op = 44; op <= 45; op++) {
                for (long before : new long[] {0, Edge.ALL}) {
                    for (int bit = 0; bit < 8 * size; bit++) {
                        long y = op == 44 ? -1L << bit : Samples.mask(8) >>> 63 - bit;
                        Rig rig = Edge.given(op, size, before, 99, y).reg(1, 5);
                        rig.step("op " + op, 0);
                        rig.register("op " + op + " size " + size + " of " + y, 3, bit);
                        rig.flags("op " + op + " size " + size + " of " + y, before & ~Rig.Z);
                    }
                    Rig rig = Edge.given(op, size, before, 99, 0).reg(1, 5);
                    rig.step("op " + op, 0);
                    rig.register("op " + op + " of 0", 3, Edge.OTHERS & ~Samples.mask(size) | 99);
                    rig.flags("op " + op + " of 0", before | Rig.Z);
                }
            }
        }
    }

    private static void turnedBytes() {
        Due.about("46: bytes in the opposite order");
        long[][] rows = {{4, 0x1122334455667788L, 0x88776655L}, {8, 0x1122334455667788L, 0x8877665544332211L}, {4, 0x80, 0x80000000L},
            {8, 0x80, Long.MIN_VALUE}, {4, 0xff000000L, 0xff}, {8, 0xffL << 56, 0xff}, {8, 1L << 32, 1L << 24}, {4, -1, 0xffffffffL}};
        for (long[] row : rows) {
            Rig rig = new Rig();
            rig.put(3, row[1]).tell(46, (int) row[0]).reg(0, 3).step("46", 0);
            rig.register("46 of " + row[1], 3, row[2]);
        }
    }

    private static void bitsOfX() {
        Due.about("47: C is bit y of x, y taken mod 32 or 64");
        for (int size : new int[] {4, 8}) {
            for (int y = 0; y < 256; y++) {
                int bit = y % (8 * size);
                for (long x : new long[] {1L << bit, ~(1L << bit)}) {
                    for (long before : new long[] {0, Edge.ALL}) {
                        long after = before & ~Rig.C | (x == 1L << bit ? Rig.C : 0);
                        Rig rig = new Rig();
                        rig.setFlags(before);
                        rig.put(3, x).put(5, y - 256L * y).tell(47, size).reg(0, 3).num(1, y).step("47", 0);
                        rig.flags("bit " + y + " of " + x, after);
                        rig.setFlags(before);
                        rig.tell(47, size).reg(0, 3).reg(1, 5).step("47", 0);
                        rig.flags("bit " + y + " of " + x + " by a register", after);
                        rig.register("x stays", 3, x);
                    }
                }
            }
        }
    }
}
