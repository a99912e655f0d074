/** 'Terms', sentence by sentence at the edges: products, divisions and the signs that are spread ahead of them. */
public final class EdgesOfProductsTest {
    private static final int[] SIZES = {1, 4, 8};

    public static void main(String[] args) {
        for (int size : SIZES) {
            products(size);
            divisionsWithoutSigns(size);
            divisionsWithSigns(size);
        }
        shortProducts();
        spreadSigns();
        Due.end();
    }

    private static void products(int size) {
        long m = Samples.mask(size);
        long t = Edge.top(size);
        Due.about("17: C and O if the lower half alone does not tell it (without signs), size " + size);
        product(17, size, 0, m, 0, 0, false);
        product(17, size, 1, m, m, 0, false);
        product(17, size, m, 1, m, 0, false);
        product(17, size, 2, t - 1, m - 1, 0, false);
        product(17, size, 2, t, 0, 1, true);
        product(17, size, m, m, 1, m - 1, true);
        product(17, size, t, t, 0, t >>> 1, true);
        Due.about("18: C and O if the lower half alone does not tell it (with signs), size " + size);
        product(18, size, 0, m, 0, 0, false);
        product(18, size, 1, t, t, m, false);
        product(18, size, 1, t - 1, t - 1, 0, false);
        product(18, size, m, m, 1, 0, false);
        product(18, size, m, t, t, 0, true);
        product(18, size, 2, t, 0, m, true);
        product(18, size, 2, t >>> 1, t, 0, true);
        product(18, size, 2, (t >>> 1) - 1, t - 2, 0, false);
        product(18, size, 2, -(t >>> 1), t, m, false);
        product(18, size, 2, -(t >>> 1) - 1, t - 2, m, true);
        product(18, size, t, t, 0, t >>> 1, true);
    }

    private static void product(int op, int size, long a, long x, long low, long high, boolean over) {
        for (long before : new long[] {0, Edge.ALL}) {
            String what = "op " + op + " size " + size + " of " + a + ", " + x;
            Rig rig = Edge.given(op, size, before, x, 0);
            long above = Edge.OTHERS & ~Samples.mask(size == 1 ? 2 : size);
            rig.put(0, above | (size == 1 ? 0x5500 : 0) | a & Samples.mask(size)).put(2, Edge.OTHERS).step(what, 0);
            pair(rig, what, size, above, low, high);
            rig.flags(what, before & ~(Rig.C | Rig.O) | (over ? Rig.C | Rig.O : 0));
        }
    }

    private static void pair(Rig rig, String what, int size, long above, long low, long high) {
        long m = Samples.mask(size);
        rig.register(what + ": rax", 0, size == 1 ? above | (high & m) << 8 | low & m : low & m);
        rig.register(what + ": rdx", 2, size == 1 ? Edge.OTHERS : high & m);
    }

    /** upper : lower by x; where it does not fit, quotient and rest are not looked at. */
    private static void division(int op, int size, long upper, long lower, long x, long quotient, long rest, boolean fits) {
        String what = "op " + op + " size " + size + " of " + upper + " : " + lower + " by " + x;
        long m = Samples.mask(size);
        for (long before : new long[] {0, Edge.ALL}) {
            Rig rig = Edge.given(op, size, before, x, 0);
            long above = Edge.OTHERS & ~Samples.mask(size == 1 ? 2 : size);
            rig.put(0, above | (size == 1 ? (upper & m) << 8 : 0) | lower & m);
            rig.put(2, size == 1 ? Edge.OTHERS : Edge.OTHERS & ~m | upper & m);
            if (fits) {
                rig.step(what, 0);
                pair(rig, what, size, above, quotient, rest);
            } else {
                rig.stops(what, 5, 0);
            }
            rig.flags(what, before);
        }
    }

    private static void divisionsWithoutSigns(int size) {
        long m = Samples.mask(size);
        long t = Edge.top(size);
        Due.about("19 (without signs): STOP 5 if x is 0, size " + size);
        division(19, size, 0, 0, 0, 0, 0, false);
        division(19, size, 0, 1, 0, 0, 0, false);
        division(19, size, m, m, 0, 0, 0, false);
        Due.about("19: STOP 5 if the quotient does not fit, size " + size);
        division(19, size, 0, 0, 1, 0, 0, true);
        division(19, size, 0, m, 1, m, 0, true);
        division(19, size, 1, 0, 1, 0, 0, false);
        division(19, size, 1, m, 2, m, 1, true);
        division(19, size, 2, 0, 2, 0, 0, false);
        division(19, size, m - 1, m, m, m, m - 1, true);
        division(19, size, m, 0, m, 0, 0, false);
        division(19, size, t - 1, m, t, m, t - 1, true);
        division(19, size, t, 0, t, 0, 0, false);
        division(19, size, 0, t - 1, t, 0, t - 1, true);
        division(19, size, 0, t, t, 1, 0, true);
    }

    private static void divisionsWithSigns(int size) {
        long m = Samples.mask(size);
        long t = Edge.top(size);
        Due.about("20 (with signs): STOP 5 if x is 0, size " + size);
        division(20, size, 0, 0, 0, 0, 0, false);
        division(20, size, m, m, 0, 0, 0, false);
        Due.about("20: STOP 5 if the quotient does not fit, size " + size);
        division(20, size, 0, t - 1, 1, t - 1, 0, true);
        division(20, size, 0, t, 1, 0, 0, false);
        division(20, size, m, t, 1, t, 0, true);
        division(20, size, m, t - 1, 1, 0, 0, false);
        division(20, size, m, t, m, 0, 0, false);
        division(20, size, m, t + 1, m, t - 1, 0, true);
        division(20, size, 0, t, m, t, 0, true);
        division(20, size, 0, t + 1, m, 0, 0, false);
        division(20, size, 0, m, 2, t - 1, 1, true);
        division(20, size, 1, 0, 2, 0, 0, false);
        division(20, size, m, 0, 2, t, 0, true);
        division(20, size, m - 1, m, 2, t, -1, true);
        division(20, size, m - 1, m - 1, 2, 0, 0, false);
        division(20, size, t, 0, t, 0, 0, false);
        division(20, size, t, 0, m, 0, 0, false);
        Due.about("20: divided by x, towards 0: the quotient and the rest, size " + size);
        division(20, size, 0, 7, 2, 3, 1, true);
        division(20, size, m, -7, 2, -3, -1, true);
        division(20, size, 0, 7, -2, -3, 1, true);
        division(20, size, m, -7, -2, 3, -1, true);
        division(20, size, m, -1, 2, 0, -1, true);
        division(20, size, 0, 1, -2, 0, 1, true);
        division(20, size, 0, t - 1, t, 0, t - 1, true);
        division(20, size, m, t, t, 1, 0, true);
    }

    private static void shortProducts() {
        Due.about("23: y times the third, or x times y: C and O if it does not fit");
        for (int size : new int[] {4, 8}) {
            long m = Samples.mask(size);
            long t = Edge.top(size);
            long[][] rows = {{1, t, t, 0}, {m, t, t, 1}, {m, t - 1, t + 1, 0}, {2, t >>> 1, t, 1}, {2, (t >>> 1) - 1, t - 2, 0},
                {2, -(t >>> 1), t, 0}, {2, -(t >>> 1) - 1, t - 2, 1}, {0, t, 0, 0}, {m, m, 1, 0}};
            for (long[] row : rows) {
                for (long before : new long[] {0, Edge.ALL}) {
                    long after = before & ~(Rig.C | Rig.O) | (row[3] != 0 ? Rig.C | Rig.O : 0);
                    Rig rig = Edge.given(23, size, before, row[0], row[1]).reg(1, 5);
                    rig.step("x times y", 0);
                    rig.register("x times y, " + row[0] + " " + row[1], 3, row[2] & m);
                    rig.flags("x times y, " + row[0] + " " + row[1], after);
                    rig = Edge.given(23, size, before, 99, row[1]).reg(1, 5).num(2, row[0] == m ? -1 : row[0]);
                    rig.step("y times the third", 0);
                    rig.register("y times the third, " + row[0] + " " + row[1], 3, row[2] & m);
                    rig.flags("y times the third, " + row[0] + " " + row[1], after);
                }
            }
            long y = 3;
            Rig rig = Edge.given(23, size, 0, 99, y).reg(1, 5).num(2, Integer.MIN_VALUE);
            rig.step("the least number", 0);
            rig.register("the least number", 3, y * Integer.MIN_VALUE & m);
            rig.flags("the least number", size == 4 ? Rig.C | Rig.O : 0);
        }
    }

    private static void spreadSigns() {
        Due.about("37: edx or rdx gets bits like the upper bit of eax or rax");
        long[] values = {0, 0x7fffffffL, 0x80000000L, 0xffffffffL, 0x100000000L, Long.MAX_VALUE, Long.MIN_VALUE, -1, 0x8000, 0x7fff, 0xffff7fffL, 0x18000L};
        for (long v : values) {
            Rig rig = new Rig();
            rig.put(0, v).put(2, Edge.OTHERS).tell(37, 4).step("37", 0);
            rig.register("37 of " + v, 2, (v & 0x80000000L) != 0 ? 0xffffffffL : 0);
            rig.put(2, Edge.OTHERS).tell(37, 8).step("37", 0);
            rig.register("37 of " + v, 2, v < 0 ? -1 : 0);
            rig.register("37 leaves rax", 0, v);
        }
        Due.about("38: eax gets its lower two bytes, rax its lower four, with their sign");
        for (long v : values) {
            Rig rig = new Rig();
            rig.put(0, v).put(2, Edge.OTHERS).tell(38, 4).step("38", 0);
            rig.register("38 of " + v, 0, (v & 0x8000) != 0 ? v & 0x7fff | 0xffff8000L : v & 0x7fff);
            rig.put(0, v).tell(38, 8).step("38", 0);
            rig.register("38 of " + v, 0, (v & 0x80000000L) != 0 ? v & 0x7fffffffL | 0xffffffff80000000L : v & 0x7fffffffL);
            rig.register("38 leaves rdx", 2, Edge.OTHERS);
        }
    }
}
