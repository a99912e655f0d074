/** Values at edges and some in between, the same ones in every run. */
public final class Samples {
    private long state;

    public Samples(long seed) {
        state = seed;
    }

    public long next() {
        state = state * 6364136223846793005L + 1442695040888963407L;
        long v = state ^ (state >>> 29);
        return v * 0x9E3779B97F4A7C15L ^ (v >>> 32);
    }

    public int below(int n) {
        return (int) ((next() >>> 1) % n);
    }

    /** A value of so many bytes: often one at an edge. */
    public long value(int size) {
        long top = 1L << (8 * size - 1);
        long[] edges = {0, 1, 2, -1, -2, top, top - 1, top + 1, 0x7f, 0x80, 0xff, 3};
        int pick = below(18);
        long v = pick < edges.length ? edges[pick] : next() >>> below(8 * size);
        return v & mask(size);
    }

    public static long mask(int size) {
        return size == 8 ? -1L : (1L << (8 * size)) - 1;
    }
}
