/** Promise 8, shifts 24 .. 28, searches 44, 45, bytes turned 46, and a bit looked at 47. */
public final class BitsTest {
    private static final int[] SIZES = {1, 4, 8};
    private static final long CELL = 0x400100L;

    public static void main(String[] args) {
        knownRows();
        for (int op = 24; op <= 28; op++) {
            for (int size : SIZES) {
                manyShifts(op, size);
            }
        }
        shiftByNothing();
        searches();
        turnedBytes();
        bitsLookedAt();
        Due.end();
    }

    private static void row(int op, int size, long x, int by, long result, long flags) {
        Rig rig = new Rig();
        rig.put(3, x).tell(op, size).reg(0, 3).num(1, by).step("op " + op, 0);
        rig.register("op " + op + " of " + x, 3, result);
        rig.flags("op " + op + " of " + x, flags);
    }

    private static void knownRows() {
        row(24, 1, 0x81, 1, 0x03, Rig.C | Rig.O);
        row(24, 1, 0x81, 8, 0x81, Rig.C);
        row(24, 1, 0x02, 8, 0x02, 0);
        row(25, 1, 0x01, 1, 0x80, Rig.C | Rig.O);
        row(25, 4, 0x3, 33, 0x80000001L, Rig.C | Rig.O);
        row(26, 1, 0xc0, 1, 0x80, Rig.C | Rig.S);
        row(26, 1, 0x40, 1, 0x80, Rig.O | Rig.S);
        row(26, 1, 0x01, 8, 0, Rig.C | Rig.Z | Rig.P);
        row(26, 1, 0xff, 9, 0, Rig.Z | Rig.P);
        row(27, 4, 0x80000000L, 1, 0x40000000L, Rig.O | Rig.P);
        row(27, 8, -1, 63, 1, Rig.C);
        row(28, 1, 0x80, 1, 0xc0, Rig.S | Rig.P);
        row(28, 1, 0x80, 31, 0xff, Rig.C | Rig.S | Rig.P);
        row(28, 8, Long.MIN_VALUE, 63, -1, Rig.S | Rig.P);
    }

    private static void manyShifts(int op, int size) {
        Samples samples = new Samples(op * 10 + size);
        Rig rig = new Rig();
        Due.yes("begin", rig.m.begin(4096, 0, 0, 0, 0, 4096));
        for (int by = 0; by <= 255; by++) {
            for (int i = 0; i < 12; i++) {
                long x = samples.value(size);
                long upper = samples.next() & ~Samples.mask(size);
                long before = rig.someFlags(samples.below(5));
                boolean inMemory = samples.below(2) == 0;
                boolean byRegister = samples.below(2) == 0;
                rig.put(3, upper | x).put(1, samples.next() & ~255L | by).tell(op, size);
                rig.poke(CELL, 8, upper | x);
                if (inMemory) {
                    rig.at(0, CELL);
                } else {
                    rig.reg(0, 3);
                }
                if (byRegister) {
                    rig.reg(1, 1);
                } else {
                    rig.num(1, by);
                }
                String what = "op " + op + " size " + size + " x " + x + " by " + by;
                rig.step(what, 0);
                check(rig, what, op, size, upper | x, by, before, inMemory);
            }
        }
    }

    /** The bits as a row of booleans, the lowest first: far from how the class does it. */
    private static void check(Rig rig, String what, int op, int size, long whole, int y, long before, boolean inMemory) {
        int n = 8 * size;
        int by = y % (size == 8 ? 64 : 32);
        boolean[] bits = new boolean[n];
        for (int i = 0; i < n; i++) {
            bits[i] = (whole >>> i & 1) != 0;
        }
        boolean was = bits[n - 1];
        boolean carry = (before & Rig.C) != 0;
        for (int i = 0; i < by; i++) {
            boolean up = op == 24 || op == 26;
            carry = bits[up ? n - 1 : 0];
            boolean in = op == 24 || op == 25 ? carry : op == 28 && bits[n - 1];
            for (int j = 0; j < n - 1; j++) {
                int k = up ? n - 1 - j : j;
                bits[k] = bits[up ? k - 1 : k + 1];
            }
            bits[up ? 0 : n - 1] = in;
        }
        long result = 0;
        for (int i = n - 1; i >= 0; i--) {
            result = result << 1 | (bits[i] ? 1 : 0);
        }
        long upper = inMemory || size == 1 || by == 0 ? whole & ~Samples.mask(size) : 0;
        Due.equal(what, inMemory ? rig.word(CELL, 8) : rig.m.register(3), upper | result);
        long flags = before & ~Rig.C | (carry ? Rig.C : 0);
        if (by == 1) {
            boolean o = op == 25 ? bits[n - 1] != bits[n - 2] : op == 27 ? was : op != 28 && carry != bits[n - 1];
            flags = flags & ~Rig.O | (o ? Rig.O : 0);
        }
        if (by != 0 && op >= 26) {
            flags = flags & ~(Rig.Z | Rig.S | Rig.P) | (result == 0 ? Rig.Z : 0) | (bits[n - 1] ? Rig.S : 0);
            flags |= Long.bitCount(result & 255) % 2 == 0 ? Rig.P : 0;
        }
        Due.equal(what + ": flags", rig.m.register(17), flags);
    }

    private static void shiftByNothing() {
        Rig rig = new Rig();
        Due.yes("begin", rig.m.begin(4096, 0, 0, 64, 64, 4096));
        rig.tell(26, 4).at(0, 0x400000L).num(1, 32).step("x is only read", 0);
        rig.num(1, 1);
        rig.stops("x is written", 3, 0x400000L);
        rig.tell(26, 4).at(0, 0x400fffL).num(1, 0);
        rig.stops("x is read by 0, too", 3, 0x400fffL);
        rig.put(1, 1).put(3, 2).tell(24, 8).reg(0, 3).reg(1, 3);
        rig.stops("y is another register", -1, 0x400fffL);
        rig.put(1, 0x103).tell(26, 8).reg(0, 1).reg(1, 1).step("rcx by itself", 0);
        rig.register("rcx by itself", 1, 0x818);
    }

    private static void searches() {
        for (int size : new int[] {4, 8}) {
            for (int low = 0; low < 8 * size; low++) {
                for (int high = low; high < 8 * size; high += 3) {
                    Rig rig = new Rig();
                    long before = rig.someFlags(low % 5);
                    long y = 1L << low | 1L << high;
                    rig.put(3, -1).put(6, size == 4 ? y | 0xabcL << 32 : y).tell(44, size).reg(0, 3).reg(1, 6).step("44", 0);
                    rig.register("lowest of " + y, 3, low);
                    Due.equal("Z alone changes", rig.m.register(17), before & ~Rig.Z);
                    rig.put(3, -1).tell(45, size).reg(0, 3).reg(1, 6).step("45", 0);
                    rig.register("highest of " + y, 3, high);
                    Due.equal("Z alone changes", rig.m.register(17), before & ~Rig.Z);
                }
            }
            for (int op = 44; op <= 45; op++) {
                Rig rig = new Rig();
                long before = rig.someFlags(2);
                rig.put(3, -5).put(6, size == 4 ? 1L << 32 : 0).tell(op, size).reg(0, 3).reg(1, 6).step("none", 0);
                rig.register("x stays whole", 3, -5);
                Due.equal("Z", rig.m.register(17), before | Rig.Z);
                rig.tell(op, size).reg(0, 3).at(1, 0x1000);
                rig.stops("not readable", 3, 0x1000);
            }
        }
    }

    private static void turnedBytes() {
        Rig rig = new Rig();
        long before = rig.someFlags(1);
        rig.put(3, 0x1122334455667788L).tell(46, 4).reg(0, 3).step("46", 0);
        rig.register("4 bytes", 3, 0x88776655L);
        rig.put(3, 0x1122334455667788L).tell(46, 8).reg(0, 3).step("46", 0);
        rig.register("8 bytes", 3, 0x8877665544332211L);
        Due.equal("flags stay", rig.m.register(17), before);
    }

    private static void bitsLookedAt() {
        Samples samples = new Samples(47);
        Rig rig = new Rig();
        rig.m.fill(0, 0x00000000_80000001L);
        rig.m.fill(8, 0x7fffffff_ffffffffL);
        Due.yes("begin", rig.m.begin(16, 16, 16, 16, 16, 16));
        for (int y = 0; y <= 255; y++) {
            for (int size = 4; size <= 8; size += 4) {
                long before = rig.someFlags(y % 5);
                int bit = y % (8 * size);
                long x = samples.next();
                String what = "bit " + y + " of " + x;
                rig.put(3, x).tell(47, size).reg(0, 3).num(1, y).step(what, 0);
                Due.equal(what, rig.m.register(17), before & ~Rig.C | (x >>> bit & 1));
                rig.register(what, 3, x);
                rig.put(6, -256L | y).tell(47, size).reg(0, 3).reg(1, 6).step(what, 0);
                Due.equal(what, rig.m.register(17), before & ~Rig.C | (x >>> bit & 1));
                // The bit is one of the operand's own bytes, however large y is.
                rig.tell(47, size).at(0, 0x400000L).reg(1, 6).step(what, 0);
                Due.equal(what, rig.m.register(17), before & ~Rig.C | (0x80000001L >>> bit & 1));
            }
        }
        rig.tell(47, 8).at(0, 0x400009L).num(1, 0);
        rig.stops("not readable", 3, 0x400009L);
    }
}
