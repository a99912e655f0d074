import java.math.BigInteger;

/** Promise 8, ops of sums, differences and bits one with one: 0 .. 7, 9, 15, 16, 21, 22, 48, 49. */
public final class SumsTest {
    private static final int[] OPS = {0, 1, 2, 3, 4, 5, 6, 7, 9, 15, 16, 21, 22, 48, 49};
    private static final int[] SIZES = {1, 4, 8};
    private static final long CELL = 0x400100L;

    public static void main(String[] args) {
        knownRows();
        for (int op : OPS) {
            for (int size : SIZES) {
                manyValues(op, size);
            }
        }
        oneRegisterTwice();
        compareAndExchange();
        Due.end();
    }

    private static void knownRows() {
        row("add", 0, 1, 0x7f, 1, 0x80, Rig.O | Rig.S);
        row("add", 0, 4, 0xffffffffL, 1, 0, Rig.C | Rig.Z | Rig.P);
        row("add", 0, 8, Long.MAX_VALUE, 1, Long.MIN_VALUE, Rig.O | Rig.S | Rig.P);
        row("sub", 5, 1, 0x80, 1, 0x7f, Rig.O);
        row("sub", 5, 8, 0, 1, -1, Rig.C | Rig.S | Rig.P);
        row("cmp", 7, 4, 5, 5, 5, Rig.Z | Rig.P);
        row("or", 1, 1, 0x80, 1, 0x81, Rig.S | Rig.P);
        row("and", 4, 1, 0xf0, 0x0f, 0, Rig.Z | Rig.P);
        row("xor", 6, 4, 0xff00ff00L, 0xff00ff00L, 0, Rig.Z | Rig.P);
        row("test", 9, 8, 1, 3, 1, 0);
    }

    private static void row(String what, int op, int size, long x, long y, long result, long flags) {
        Rig rig = new Rig();
        rig.put(3, x).put(6, y).tell(op, size).reg(0, 3).reg(1, 6).step(what, 0);
        rig.register(what, 3, result);
        rig.register(what + " y", 6, y);
        rig.flags(what, flags);
    }

    private static void manyValues(int op, int size) {
        Samples samples = new Samples(op * 100 + size);
        Rig rig = new Rig();
        Due.yes("begin", rig.m.begin(4096, 0, 0, 0, 0, 4096));
        for (int i = 0; i < 1500; i++) {
            long x = samples.value(size);
            long y = samples.below(4) == 0 ? x : samples.value(size);
            tryForms(rig, op, size, x, y, samples);
        }
    }

    private static boolean oneOperand(int op) {
        return op == 15 || op == 16 || op == 21 || op == 22;
    }

    private static void tryForms(Rig rig, int op, int size, long x, long y, Samples samples) {
        int forms = oneOperand(op) ? 2 : op <= 7 ? 5 : op == 9 ? 4 : 2;
        int form = samples.below(forms);
        // x: register or memory; y: register, number, or (form 4) memory.
        boolean xInMemory = form == 1 || form == 3;
        boolean yIsNumber = form == 2 || form == 3;
        long number = size == 1 ? (byte) y : (int) y;
        long yy = yIsNumber ? number & Samples.mask(size) : y;
        long upperX = samples.next();
        long upperY = samples.next();
        long before = rig.someFlags(samples.below(5));
        rig.put(0, samples.below(2) == 0 ? x : samples.next());
        rig.put(3, upperX & ~Samples.mask(size) | x).put(6, upperY & ~Samples.mask(size) | yy);
        rig.poke(CELL, 8, upperX & ~Samples.mask(size) | (form == 4 ? yy : x));
        rig.tell(op, size);
        if (xInMemory) {
            rig.at(0, CELL);
        } else {
            rig.reg(0, 3);
        }
        if (!oneOperand(op)) {
            if (yIsNumber) {
                rig.num(1, number);
            } else if (form == 4) {
                rig.at(1, CELL);
            } else {
                rig.reg(1, 6);
            }
        }
        long rax = rig.m.register(0);
        String what = "op " + op + " size " + size + " form " + form + " x " + x + " y " + yy;
        rig.step(what, 0);
        check(rig, what, op, size, x, yy, xInMemory, before, rax, upperX);
        if (op != 48) {
            rig.register(what + " y stays", 6, upperY & ~Samples.mask(size) | yy);
        } else {
            rig.register(what + " y is x", 6, written(upperY & ~Samples.mask(size) | yy, x, size));
        }
    }

    private static long written(long old, long v, int size) {
        return size == 1 ? old & ~255L | v : v;
    }

    private static void check(Rig rig, String what, int op, int size, long x, long y, boolean inMemory,
            long before, long rax, long upper) {
        long mask = Samples.mask(size);
        long a = rax & mask;
        long result = result(op, size, x, y, (before & Rig.C) != 0, a);
        boolean kept = op != 7 && op != 9 && !(op == 49 && a != x);
        long old = upper & ~mask | x;
        if (inMemory) {
            long cell = rig.word(CELL, 8);
            Due.equal(what + ": memory", cell, upper & ~mask | (kept ? result : x));
            rig.register(what + ": register is left alone", 3, old);
        } else {
            rig.register(what, 3, kept ? written(old, result, size) : old);
        }
        rig.register(what + " rax", 0, op == 49 && a != x ? written(rax, x, size) : rax);
        Due.equal(what + ": flags", rig.m.register(17), flags(op, size, x, y, before, a));
    }

    private static long result(int op, int size, long x, long y, boolean carry, long a) {
        return exact(op, size, x, y, carry, a, false).longValue() & Samples.mask(size);
    }

    private static BigInteger big(long v, int size, boolean signs) {
        BigInteger b = BigInteger.valueOf(v);
        if (signs) {
            BigInteger unsigned = b.and(BigInteger.ONE.shiftLeft(8 * size).subtract(BigInteger.ONE));
            return unsigned.testBit(8 * size - 1) ? unsigned.subtract(BigInteger.ONE.shiftLeft(8 * size)) : unsigned;
        }
        return b.and(BigInteger.ONE.shiftLeft(8 * size).subtract(BigInteger.ONE));
    }

    /** The result before it is cut to its size, of operands taken with or without signs. */
    private static BigInteger exact(int op, int size, long x, long y, boolean carry, long a, boolean signs) {
        BigInteger bx = big(x, size, signs);
        BigInteger by = big(y, size, signs);
        BigInteger more = carry ? BigInteger.ONE : BigInteger.ZERO;
        switch (op) {
            case 0: case 48: return bx.add(by);
            case 2: return bx.add(by).add(more);
            case 5: case 7: return bx.subtract(by);
            case 3: return bx.subtract(by).subtract(more);
            case 16: return bx.negate();
            case 21: return bx.add(BigInteger.ONE);
            case 22: return bx.subtract(BigInteger.ONE);
            case 1: return bx.or(by);
            case 4: case 9: return bx.and(by);
            case 6: return bx.xor(by);
            case 15: return bx.not();
            default: return by;
        }
    }

    private static long flags(int op, int size, long x, long y, long before, long a) {
        if (op == 15) {
            return before;
        }
        if (op == 49) {
            return flags(7, size, a, x, before, a);
        }
        boolean carryIn = (before & Rig.C) != 0;
        BigInteger unsigned = exact(op, size, x, y, carryIn, a, false);
        BigInteger signed = exact(op, size, x, y, carryIn, a, true);
        BigInteger limit = BigInteger.ONE.shiftLeft(8 * size);
        BigInteger half = BigInteger.ONE.shiftLeft(8 * size - 1);
        boolean bitwise = op == 1 || op == 4 || op == 6 || op == 9;
        boolean carry = unsigned.signum() < 0 || unsigned.compareTo(limit) >= 0;
        boolean overflow = signed.compareTo(half) >= 0 || signed.compareTo(half.negate()) < 0;
        if (op == 21 || op == 22) {
            carry = carryIn;
        }
        long r = unsigned.longValue() & Samples.mask(size);
        boolean even = BigInteger.valueOf(r & 255).bitCount() % 2 == 0;
        boolean upper = big(r, size, true).signum() < 0;
        return 2 + (carry && !bitwise ? 1 : 0) + (even ? 4 : 0) + (r == 0 ? 64 : 0) + (upper ? 128 : 0)
            + (overflow && !bitwise ? 2048 : 0);
    }

    private static void oneRegisterTwice() {
        Rig rig = new Rig();
        rig.put(3, 7).tell(48, 8).reg(0, 3).reg(1, 3).step("xadd of one register", 0);
        rig.register("xadd", 3, 14);
        rig.put(3, 7).tell(5, 8).reg(0, 3).reg(1, 3).step("sub of one register", 0);
        rig.register("sub", 3, 0);
        // The address is taken ahead of the step, though y is part of it.
        Due.yes("begin", rig.m.begin(4096, 0, 0, 0, 0, 4096));
        rig.poke(CELL, 8, 1000);
        rig.put(3, CELL);
        rig.m.memory(3, -1, 1, 0);
        rig.tell(48, 8).mem(0).reg(1, 3).step("xadd at y", 0);
        rig.register("xadd at y", 3, 1000);
        Due.equal("xadd at y", rig.word(CELL, 8), CELL + 1000);
    }

    private static void compareAndExchange() {
        Rig rig = new Rig();
        rig.m.fill(0, 55);
        Due.yes("begin", rig.m.begin(4096, 0, 0, 64, 64, 4096));
        // x is written only if it is the same, so a readable one is enough else.
        rig.put(0, 54).put(1, 9).tell(49, 8).at(0, 0x400000L).reg(1, 1).step("not the same", 0);
        rig.register("rax", 0, 55);
        rig.flags("54 - 55", Rig.C | Rig.S | Rig.P);
        rig.stops("the same, not writable", 3, 0x400000L);
        rig.put(0, -1).put(3, 0x5_00000000L).tell(49, 4).reg(0, 3).reg(1, 1).step("4 bytes", 0);
        rig.register("eax", 0, 0);
        rig.register("x stays whole", 3, 0x5_00000000L);
        rig.put(0, 0x7_00000000L).step("4 bytes, the same", 0);
        rig.register("rax stays whole", 0, 0x7_00000000L);
        rig.register("x", 3, 9);
    }
}
