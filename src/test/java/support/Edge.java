/** What the tests of edges share: operands with other bytes around them, and how flags and registers follow from a result. */
public final class Edge {
    public static final long ALL = Rig.C | Rig.P | Rig.Z | Rig.S | Rig.O;
    public static final long ZSP = Rig.Z | Rig.S | Rig.P;
    /** Bytes around an operand that are unlike its own. */
    public static final long OTHERS = 0x1112131415161718L;

    private Edge() {
    }

    public static long top(int size) {
        return 1L << (8 * size - 1);
    }

    public static long zsp(long v, int size) {
        long even = 1;
        for (int i = 0; i < 8; i++) {
            even ^= v >> i & 1;
        }
        return ((v & Samples.mask(size)) == 0 ? Rig.Z : 0) | ((v & top(size)) != 0 ? Rig.S : 0) | even * Rig.P;
    }

    public static long written(long old, long v, int size) {
        return size == 1 ? old & ~255L | v & 255 : v & Samples.mask(size);
    }

    /** x in register 3 with other bytes above it, y in register 5. */
    public static Rig given(int op, int size, long flags, long x, long y) {
        Rig rig = new Rig();
        rig.setFlags(flags);
        long above = OTHERS & ~Samples.mask(size);
        rig.put(3, above | x & Samples.mask(size)).put(5, above | y & Samples.mask(size)).tell(op, size).reg(0, 3);
        return rig;
    }
}
