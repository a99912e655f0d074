import java.math.BigInteger;

/** Promise 8, products and divisions: 17 .. 20, 23, and the spread signs 37, 38. */
public final class ProductsTest {
    private static final int[] SIZES = {1, 4, 8};
    private static final long CELL = 0x400100L;

    public static void main(String[] args) {
        for (int size : SIZES) {
            for (int op = 17; op <= 20; op++) {
                manyValues(op, size);
            }
        }
        manyNarrow(4);
        manyNarrow(8);
        divisionEdges();
        spreadSigns();
        Due.end();
    }

    private static BigInteger big(long v, int size, boolean signs) {
        BigInteger all = BigInteger.ONE.shiftLeft(8 * size);
        BigInteger b = BigInteger.valueOf(v).mod(all);
        return signs && b.testBit(8 * size - 1) ? b.subtract(all) : b;
    }

    private static boolean fits(BigInteger v, int size, boolean signs) {
        BigInteger all = BigInteger.ONE.shiftLeft(8 * size);
        BigInteger b = v.mod(all);
        return (signs && b.testBit(8 * size - 1) ? b.subtract(all) : b).equals(v);
    }

    private static void manyValues(int op, int size) {
        Samples samples = new Samples(op * 1000 + size);
        Rig rig = new Rig();
        Due.yes("begin", rig.m.begin(4096, 0, 0, 0, 0, 4096));
        for (int i = 0; i < 2500; i++) {
            long rax = samples.next() & ~Samples.mask(size) | samples.value(size);
            long rdx = samples.next() & ~Samples.mask(size) | samples.value(size);
            if (op == 20 && samples.below(2) == 0) {
                rdx = size == 1 ? rdx : rax << (64 - 8 * size) < 0 ? -1 : 0;
            }
            if (size == 1) {
                int ah = samples.below(3) == 0 ? ((byte) rax < 0 ? 255 : 0) : samples.below(256);
                rax = rax & ~0xff00L | (long) ah << 8;
            }
            long x = samples.value(size);
            int where = samples.below(2);
            one(rig, op, size, rax, rdx, x, where == 0, samples.below(5));
        }
    }

    private static void one(Rig rig, int op, int size, long rax, long rdx, long x, boolean inMemory, int flags) {
        long before = rig.someFlags(flags);
        rig.put(0, rax).put(2, rdx).put(3, x).tell(op, size);
        rig.poke(CELL, size, x);
        if (inMemory) {
            rig.at(0, CELL);
        } else {
            rig.reg(0, 3);
        }
        String what = "op " + op + " size " + size + " rax " + rax + " rdx " + rdx + " x " + x;
        if (op <= 18) {
            product(rig, what, op == 18, size, rax, rdx, x, before);
        } else {
            quotient(rig, what, op == 20, size, rax, rdx, x, before);
        }
    }

    private static void product(Rig rig, String what, boolean signs, int size, long rax, long rdx, long x, long before) {
        BigInteger p = big(rax, size, signs).multiply(big(x, size, signs));
        rig.step(what, 0);
        pair(rig, what, size, rax, rdx, p.longValue(), p.shiftRight(8 * size).longValue());
        long over = fits(p, size, signs) ? 0 : Rig.C | Rig.O;
        Due.equal(what + ": flags", rig.m.register(17), before & ~(Rig.C | Rig.O) | over);
    }

    private static void pair(Rig rig, String what, int size, long rax, long rdx, long low, long high) {
        long mask = Samples.mask(size);
        if (size == 1) {
            rig.register(what, 0, rax & ~0xffffL | (high & 255) << 8 | low & 255);
            rig.register(what, 2, rdx);
        } else {
            rig.register(what, 0, low & mask);
            rig.register(what, 2, high & mask);
        }
    }

    private static void quotient(Rig rig, String what, boolean signs, int size, long rax, long rdx, long x, long before) {
        BigInteger upper = size == 1 ? big(rax >> 8, 1, signs) : big(rdx, size, signs);
        BigInteger dividend = upper.shiftLeft(8 * size).add(big(rax, size, false));
        BigInteger divisor = big(x, size, signs);
        boolean good = divisor.signum() != 0 && fits(dividend.divide(divisor), size, signs);
        long steps = rig.m.register(19);
        rig.step(what, good ? 0 : 5);
        Due.equal(what + ": value", rig.m.value(), 0);
        if (good) {
            BigInteger[] both = dividend.divideAndRemainder(divisor);
            pair(rig, what, size, rax, rdx, both[0].longValue(), both[1].longValue());
        } else {
            rig.register(what, 0, rax);
            rig.register(what, 2, rdx);
            rig.register(what, 19, steps);
        }
        Due.equal(what + ": flags stay", rig.m.register(17), before);
    }

    private static void manyNarrow(int size) {
        Samples samples = new Samples(size);
        Rig rig = new Rig();
        Due.yes("begin", rig.m.begin(4096, 0, 0, 0, 0, 4096));
        for (int i = 0; i < 2500; i++) {
            boolean three = samples.below(2) == 0;
            boolean inMemory = samples.below(2) == 0;
            long x = samples.value(size);
            long y = samples.value(size);
            int number = (int) samples.value(4);
            long before = rig.someFlags(samples.below(5));
            rig.poke(CELL, size, y);
            rig.put(3, samples.next() & ~Samples.mask(size) | x).put(6, y).tell(23, size).reg(0, 3);
            if (inMemory) {
                rig.at(1, CELL);
            } else {
                rig.reg(1, 6);
            }
            if (three) {
                rig.num(2, number);
            }
            String what = "imul size " + size + " x " + x + " y " + y + (three ? " number " + number : "");
            BigInteger p = big(y, size, true).multiply(three ? BigInteger.valueOf(number) : big(x, size, true));
            rig.step(what, 0);
            rig.register(what, 3, p.longValue() & Samples.mask(size));
            long over = fits(p, size, true) ? 0 : Rig.C | Rig.O;
            Due.equal(what + ": flags", rig.m.register(17), before & ~(Rig.C | Rig.O) | over);
        }
    }

    private static void divisionEdges() {
        for (int size : SIZES) {
            long top = 1L << (8 * size - 1);
            Rig rig = new Rig();
            for (int op = 19; op <= 20; op++) {
                rig.put(0, 1).put(2, 0).put(3, 0).tell(op, size).reg(0, 3);
                rig.stops("division by 0, size " + size, 5, 0);
            }
            // The most negative number by -1 has no quotient, by 1 it has one.
            rig.put(0, size == 1 ? 0xff80 : top).put(2, size == 1 ? 0 : -1).put(3, -1).tell(20, size).reg(0, 3);
            rig.stops("least by -1, size " + size, 5, 0);
            rig.put(3, 1).step("least by 1, size " + size, 0);
            Due.equal("least by 1", rig.m.register(0) & Samples.mask(size), top);
        }
        Rig rig = new Rig();
        rig.put(0, 0).put(2, Long.MIN_VALUE).put(3, Long.MIN_VALUE).tell(20, 8).reg(0, 3);
        rig.stops("least of 16 bytes by least of 8", 5, 0);
        rig.put(0, -1).put(2, -2).put(3, -1).tell(19, 8).reg(0, 3).step("largest that fits", 0);
        rig.register("quotient", 0, -1);
        rig.register("rest", 2, -2);
        rig.put(2, 3).tell(19, 8).reg(0, 2);
        rig.stops("upper half is the divisor", 5, 0);
        rig.put(0, 7).put(2, 0).put(3, 2);
        rig.tell(19, 8).at(0, 0x1000);
        rig.stops("memory that is not there", 3, 0x1000);
        rig.tell(18, 8).at(0, 0x1000);
        rig.stops("product with memory that is not there", 3, 0x1000);
        rig.tell(23, 8).reg(0, 3).at(1, 0x1000);
        rig.stops("product with memory that is not there", 3, 0x1000);
    }

    private static void spreadSigns() {
        Rig rig = new Rig();
        long before = rig.someFlags(1);
        long[] values = {0, 1, 0x7fff, 0x8000, 0xffff, 0x7fffffffL, 0x80000000L, -1, Long.MIN_VALUE, Long.MAX_VALUE, 0x12345678_9abcdef0L};
        for (long v : values) {
            rig.put(0, v).put(2, 0x5555).tell(37, 4).step("37", 0);
            rig.register("37 of " + v, 2, (int) v < 0 ? 0xffffffffL : 0);
            rig.register("37 leaves rax", 0, v);
            rig.tell(37, 8).step("37", 0);
            rig.register("37 of " + v, 2, v < 0 ? -1 : 0);
            rig.tell(38, 4).step("38", 0);
            rig.register("38 of " + v, 0, (short) v & 0xffffffffL);
            rig.put(0, v).tell(38, 8).step("38", 0);
            rig.register("38 of " + v, 0, (int) v);
        }
        Due.equal("flags stay", rig.m.register(17), before);
    }
}
