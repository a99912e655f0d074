/** 'Terms', what each op makes of its operands and of the flags, sentence by sentence at the edges. */
public final class EdgesOfResultsTest {
    private static final int[] SIZES = {1, 4, 8};
    private static final long ALL = Rig.C | Rig.P | Rig.Z | Rig.S | Rig.O;
    private static final long ZSP = Rig.Z | Rig.S | Rig.P;
    private static final long OTHERS = 0x1112131415161718L;

    public static void main(String[] args) {
        for (int size : SIZES) {
            sums(size);
            differences(size);
            bitsOneWithOne(size);
            oneMoreOneLess(size);
            products(size);
            divisionsWithoutSigns(size);
            divisionsWithSigns(size);
            shiftsByY(size);
            shiftsByOne(size);
            comparedAndExchanged(size);
        }
        zeroSignParity();
        writtenRegisters();
        numbersWithTheirSign();
        flagsThatStay();
        widened();
        shortProducts();
        jumps();
        conditions();
        spreadSigns();
        searches();
        turnedBytes();
        bitsOfX();
        repeated();
        stopsOfOps();
        Due.end();
    }

    private static long mask(int size) {
        return Samples.mask(size);
    }

    private static long top(int size) {
        return 1L << (8 * size - 1);
    }

    private static long zsp(long v, int size) {
        long even = 1;
        for (int i = 0; i < 8; i++) {
            even ^= v >> i & 1;
        }
        return ((v & mask(size)) == 0 ? Rig.Z : 0) | ((v & top(size)) != 0 ? Rig.S : 0) | even * Rig.P;
    }

    private static long written(long old, long v, int size) {
        return size == 1 ? old & ~255L | v & 255 : v & mask(size);
    }

    /** x in register 3 with other bytes above it, y in register 5. */
    private static Rig given(int op, int size, long flags, long x, long y) {
        Rig rig = new Rig();
        rig.setFlags(flags);
        long above = OTHERS & ~mask(size);
        rig.put(3, above | x & mask(size)).put(5, above | y & mask(size)).tell(op, size).reg(0, 3);
        return rig;
    }

    /** A row of two operands: C and O are told, zsp are the result's; the flags before are all, but C is told, or none. */
    private static void row(int op, int size, long carryIn, long x, long y, long result, long carryAndO) {
        for (long before : new long[] {carryIn, ALL & ~Rig.C | carryIn}) {
            String what = "op " + op + " size " + size + " of " + x + ", " + y + " with flags " + before;
            Rig rig = given(op, size, before, x, y);
            if (op != 16 && op != 21 && op != 22) {
                rig.reg(1, 5);
            }
            long old = rig.m.register(3);
            rig.step(what, 0);
            rig.register(what, 3, op == 7 || op == 9 ? old : written(old, result, size));
            rig.flags(what, carryAndO | zsp(result, size));
        }
    }

    private static void sums(int size) {
        long m = mask(size);
        long t = top(size);
        for (int op : new int[] {0, 48, 2}) {
            Due.about(op + ": C, O if the sum without signs, with signs, does not fit; zsp; size " + size);
            row(op, size, 0, 0, 0, 0, 0);
            row(op, size, 0, m - 1, 1, m, 0);
            row(op, size, 0, m, 1, 0, Rig.C);
            row(op, size, 0, t - 2, 1, t - 1, 0);
            row(op, size, 0, t - 1, 1, t, Rig.O);
            row(op, size, 0, t, t, 0, Rig.C | Rig.O);
            row(op, size, 0, t, m, t - 1, Rig.C | Rig.O);
            row(op, size, 0, t + 1, m, t, Rig.C);
            row(op, size, 0, m, m, m - 1, Rig.C);
            row(op, size, 0, t - 1, t, m, 0);
        }
        Due.about("2 (+ C), size " + size);
        row(2, size, Rig.C, 0, 0, 1, 0);
        row(2, size, Rig.C, m - 1, 0, m, 0);
        row(2, size, Rig.C, m, 0, 0, Rig.C);
        row(2, size, Rig.C, 0, m, 0, Rig.C);
        row(2, size, Rig.C, m, m, m, Rig.C);
        row(2, size, Rig.C, t - 2, 0, t - 1, 0);
        row(2, size, Rig.C, t - 1, 0, t, Rig.O);
        row(2, size, Rig.C, t - 1, t, 0, Rig.C);
        row(2, size, Rig.C, t, m, t, Rig.C);
        row(2, size, Rig.C, t, t, 1, Rig.C | Rig.O);
        Due.about("0, 48: without C, size " + size);
        row(0, size, Rig.C, m, 0, m, 0);
        row(48, size, Rig.C, m, 0, m, 0);
        Due.about("48 xadd (y becomes x ahead of it), size " + size);
        for (int y = 0; y < 16; y++) {
            Rig rig = new Rig();
            Due.yes("begin", rig.m.begin(4096, 0, 0, 0, 0, 4096));
            rig.poke(0x400100L, 8, OTHERS);
            rig.put(y, OTHERS & ~m | 5).tell(48, size).at(0, 0x400100L).reg(1, y).step("xadd", 0);
            rig.register("y is register " + y, y, written(OTHERS, OTHERS, size));
            Due.equal("memory by register " + y, rig.word(0x400100L, 8), OTHERS & ~m | OTHERS + 5 & m);
            rig.put(3, OTHERS & ~m | 7).put(y, OTHERS & ~m | 7).tell(48, size).reg(0, 3).reg(1, y).step("xadd", 0);
            rig.register("sum by register " + y, 3, written(OTHERS, 14, size));
            rig.register("y is register " + y, y, written(OTHERS, y == 3 ? 14 : 7, size));
        }
    }

    private static void differences(int size) {
        long m = mask(size);
        long t = top(size);
        for (int op : new int[] {5, 7, 3}) {
            Due.about(op + ": likewise of the difference, size " + size);
            row(op, size, 0, 0, 0, 0, 0);
            row(op, size, 0, 1, 1, 0, 0);
            row(op, size, 0, 0, 1, m, Rig.C);
            row(op, size, 0, m, m, 0, 0);
            row(op, size, 0, m - 1, m, m, Rig.C);
            row(op, size, 0, t, 1, t - 1, Rig.O);
            row(op, size, 0, t + 1, 1, t, 0);
            row(op, size, 0, t - 1, m, t, Rig.C | Rig.O);
            row(op, size, 0, t - 2, m, t - 1, Rig.C);
            row(op, size, 0, 0, t, t, Rig.C | Rig.O);
            row(op, size, 0, m, t, t - 1, 0);
        }
        Due.about("3 (- C), size " + size);
        row(3, size, Rig.C, 1, 0, 0, 0);
        row(3, size, Rig.C, 0, 0, m, Rig.C);
        row(3, size, Rig.C, 0, m, 0, Rig.C);
        row(3, size, Rig.C, m, m, m, Rig.C);
        row(3, size, Rig.C, t, 0, t - 1, Rig.O);
        row(3, size, Rig.C, t + 1, 0, t, 0);
        row(3, size, Rig.C, t - 1, m, t - 1, Rig.C);
        row(3, size, Rig.C, 0, t, t - 1, Rig.C);
        Due.about("5, 7: without C, size " + size);
        row(5, size, Rig.C, 0, 0, 0, 0);
        row(7, size, Rig.C, 0, 0, 0, 0);
        Due.about("16 neg (0 - x): likewise, size " + size);
        row(16, size, Rig.C, 0, 9, 0, 0);
        row(16, size, 0, 1, 9, m, Rig.C);
        row(16, size, 0, m, 9, 1, Rig.C);
        row(16, size, 0, t, 9, t, Rig.C | Rig.O);
        row(16, size, 0, t - 1, 9, t + 1, Rig.C);
        row(16, size, 0, t + 1, 9, t - 1, Rig.C);
    }

    private static void bitsOneWithOne(int size) {
        long m = mask(size);
        long t = top(size);
        Due.about("1 or, 4 and, 6 exclusive or, 9 test: C, O 0, zsp, size " + size);
        long[][] pairs = {{0, 0}, {0, m}, {m, m}, {t, 1}, {t, t}, {m ^ t, t}, {0x55, 0xaa}, {0x0f, 0x3c}};
        for (long[] pair : pairs) {
            for (long carry : new long[] {0, Rig.C}) {
                row(1, size, carry, pair[0], pair[1], pair[0] | pair[1], 0);
                row(4, size, carry, pair[0], pair[1], pair[0] & pair[1], 0);
                row(6, size, carry, pair[0], pair[1], pair[0] ^ pair[1], 0);
                row(9, size, carry, pair[0], pair[1], pair[0] & pair[1], 0);
            }
        }
        Due.about("15 not, size " + size);
        for (long x : new long[] {0, m, t, 0x5a}) {
            for (long before : new long[] {0, ALL}) {
                Rig rig = given(15, size, before, x, 0);
                long old = rig.m.register(3);
                rig.step("not " + x, 0);
                rig.register("not " + x, 3, written(old, ~x, size));
                rig.flags("not " + x, before);
            }
        }
    }

    private static void oneMoreOneLess(int size) {
        long m = mask(size);
        long t = top(size);
        for (long carry : new long[] {0, Rig.C}) {
            Due.about("21 x + 1: O, zsp; C stays, size " + size);
            row(21, size, carry, 0, 0, 1, carry);
            row(21, size, carry, m, 0, 0, carry);
            row(21, size, carry, t - 1, 0, t, carry | Rig.O);
            row(21, size, carry, t, 0, t + 1, carry);
            Due.about("22 x - 1: O, zsp; C stays, size " + size);
            row(22, size, carry, 1, 0, 0, carry);
            row(22, size, carry, 0, 0, m, carry);
            row(22, size, carry, t, 0, t - 1, carry | Rig.O);
            row(22, size, carry, t + 1, 0, t, carry);
        }
    }

    private static void zeroSignParity() {
        Due.about("Z if the result is 0, S its upper bit, P if its lowest byte has an even number of bits 1");
        for (int size : SIZES) {
            for (int bit = 0; bit < 8 * size; bit++) {
                row(1, size, 0, 1L << bit, 0, 1L << bit, 0);
                row(1, size, 0, 1L << bit, 3, 1L << bit | 3, 0);
            }
        }
        for (int low = 0; low < 256; low++) {
            row(1, 8, 0, low, 0, low, 0);
        }
    }

    private static void writtenRegisters() {
        Due.about("A register of 4 bytes that is written has its upper half 0; of 1 byte: the others stay");
        String[] rows = {"0 rr", "8 rr", "10 rr", "15 r", "21 r", "26 ri", "8 ri", "48 rr"};
        for (String row : rows) {
            for (int size : SIZES) {
                Rig rig = new Rig();
                rig.m.number(1);
                rig.put(3, OTHERS).put(5, OTHERS).tell(Integer.parseInt(row.split(" ")[0]), size).kinds(row.split(" ")[1]).step(row, 0);
                long above = rig.m.register(3) & ~mask(size);
                Due.equal(row + " size " + size, above, size == 1 ? OTHERS & ~255L : 0);
            }
        }
        Rig rig = new Rig();
        rig.put(3, -1).put(5, 0).when(36, 4, 4).reg(0, 3).reg(1, 5).step("36, not so", 0);
        rig.register("36: in any case written", 3, 0xffffffffL);
        rig.put(3, -1).put(5, 0).tell(44, 4).reg(0, 3).reg(1, 5).step("44 of 0", 0);
        rig.register("44: else it stays", 3, -1);
        rig.put(3, -1).tell(26, 4).reg(0, 3).num(1, 0).step("26 by 0", 0);
        rig.register("26: by 0 nothing changes", 3, -1);
    }

    private static void numbersWithTheirSign() {
        Due.about("Numbers are taken with their sign to the size");
        long[][] rows = {{1, -128, 0x80}, {1, 127, 0x7f}, {1, -1, 0xff}, {4, -1, 0xffffffffL}, {4, Integer.MIN_VALUE, 0x80000000L},
            {4, Integer.MAX_VALUE, 0x7fffffffL}, {8, -1, -1}, {8, Integer.MIN_VALUE, Integer.MIN_VALUE}, {8, Integer.MAX_VALUE, Integer.MAX_VALUE}};
        for (long[] row : rows) {
            int size = (int) row[0];
            for (int op : new int[] {0, 1, 6, 8}) {
                Rig rig = new Rig();
                rig.tell(op, size).reg(0, 3).num(1, row[1]).step("op " + op, 0);
                rig.register("op " + op + " size " + size + " number " + row[1], 3, row[2]);
            }
        }
        for (long v : new long[] {Long.MIN_VALUE, Long.MAX_VALUE, 0x80000000L}) {
            Rig rig = new Rig();
            rig.tell(8, 8).reg(0, 3).num(1, v).step("mov", 0);
            rig.register("any number by 8", 3, v);
        }
        for (long v : new long[] {Integer.MIN_VALUE, -1, 0, Integer.MAX_VALUE}) {
            Rig rig = new Rig();
            rig.tell(29, 8).num(0, v).step("push", 0);
            Due.equal("pushed", rig.word(Rig.STACK_END - 8, 8), v);
        }
    }

    private static void flagsThatStay() {
        Due.about("flags that are not named stay");
        String[] rows = {"8 8 rr 0", "10 4 rr 0", "11 8 rm 0", "12 4 rr 0", "13 8 rr 0", "14 8 rr 0", "15 1 r 0", "17 1 r 2049", "18 8 r 2049",
            "19 4 r 0", "20 8 r 0", "21 8 r 2244", "22 1 r 2244", "23 4 rr 2049", "23 8 rri 2049", "29 8 r 0", "30 8 r 0", "31 0 i 0", "32 0 i 0",
            "33 0 n 0", "34 0 i 0", "35 1 r 0", "36 4 rr 0", "37 4 n 0", "38 8 n 0", "39 0 n 0", "40 0 n 0", "41 0 n 0", "42 0 n 0", "43 0 n 0",
            "44 4 rr 64", "45 8 rr 64", "46 8 r 0", "47 4 ri 1", "50 1 n 0", "51 4 n 0", "52 8 n 0", "53 1 n 0", "8 8 rm 0"};
        for (String row : rows) {
            String[] parts = row.split(" ");
            for (int set = 0; set < 32; set++) {
                Rig rig = new Rig();
                rig.setFlags(Rig.flagsOf(set));
                rig.m.memory(-1, -1, 1, 0x1000);
                rig.m.number(9);
                for (int k = 0; k < 16; k++) {
                    rig.put(k, Rig.STACK_END - 512);
                }
                rig.put(0, 60).put(2, 0).put(3, 7);
                rig.tell(Integer.parseInt(parts[0]), Integer.parseInt(parts[1])).kinds(parts[2]);
                Due.yes(row + " is done", rig.m.step(3) >= 0);
                long named = Long.parseLong(parts[3]);
                Due.equal(row + " with flags " + Rig.flagsOf(set), rig.m.register(17) & ~named, (2 | Rig.flagsOf(set)) & ~named);
            }
        }
    }

    private static void products(int size) {
        long m = mask(size);
        long t = top(size);
        Due.about("17: C and O if the lower half alone does not tell it (without signs), size " + size);
        product(17, size, 0, m, 0, 0, false);
        product(17, size, 1, m, m, 0, false);
        product(17, size, m, 1, m, 0, false);
        product(17, size, 2, t - 1, m - 1, 0, false);
        product(17, size, 2, t, 0, 1, true);
        product(17, size, m, m, 1, m - 1, true);
        product(17, size, t, t, 0, t >>> 1, true);
        Due.about("18: C and O if the lower half alone does not tell it (with signs), size " + size);
        product(18, size, 0, m, 0, 0, false);
        product(18, size, 1, t, t, m, false);
        product(18, size, 1, t - 1, t - 1, 0, false);
        product(18, size, m, m, 1, 0, false);
        product(18, size, m, t, t, 0, true);
        product(18, size, 2, t, 0, m, true);
        product(18, size, 2, t >>> 1, t, 0, true);
        product(18, size, 2, (t >>> 1) - 1, t - 2, 0, false);
        product(18, size, 2, -(t >>> 1), t, m, false);
        product(18, size, 2, -(t >>> 1) - 1, t - 2, m, true);
        product(18, size, t, t, 0, t >>> 1, true);
    }

    private static void product(int op, int size, long a, long x, long low, long high, boolean over) {
        for (long before : new long[] {0, ALL}) {
            String what = "op " + op + " size " + size + " of " + a + ", " + x;
            Rig rig = given(op, size, before, x, 0);
            long above = OTHERS & ~mask(size == 1 ? 2 : size);
            rig.put(0, above | (size == 1 ? 0x5500 : 0) | a & mask(size)).put(2, OTHERS).step(what, 0);
            pair(rig, what, size, above, low, high);
            rig.flags(what, before & ~(Rig.C | Rig.O) | (over ? Rig.C | Rig.O : 0));
        }
    }

    private static void pair(Rig rig, String what, int size, long above, long low, long high) {
        long m = mask(size);
        rig.register(what + ": rax", 0, size == 1 ? above | (high & m) << 8 | low & m : low & m);
        rig.register(what + ": rdx", 2, size == 1 ? OTHERS : high & m);
    }

    /** upper : lower by x; where it does not fit, quotient and rest are not looked at. */
    private static void division(int op, int size, long upper, long lower, long x, long quotient, long rest, boolean fits) {
        String what = "op " + op + " size " + size + " of " + upper + " : " + lower + " by " + x;
        long m = mask(size);
        for (long before : new long[] {0, ALL}) {
            Rig rig = given(op, size, before, x, 0);
            long above = OTHERS & ~mask(size == 1 ? 2 : size);
            rig.put(0, above | (size == 1 ? (upper & m) << 8 : 0) | lower & m);
            rig.put(2, size == 1 ? OTHERS : OTHERS & ~m | upper & m);
            if (fits) {
                rig.step(what, 0);
                pair(rig, what, size, above, quotient, rest);
            } else {
                rig.stops(what, 5, 0);
            }
            rig.flags(what, before);
        }
    }

    private static void divisionsWithoutSigns(int size) {
        long m = mask(size);
        long t = top(size);
        Due.about("19 (without signs): STOP 5 if x is 0, size " + size);
        division(19, size, 0, 0, 0, 0, 0, false);
        division(19, size, 0, 1, 0, 0, 0, false);
        division(19, size, m, m, 0, 0, 0, false);
        Due.about("19: STOP 5 if the quotient does not fit, size " + size);
        division(19, size, 0, 0, 1, 0, 0, true);
        division(19, size, 0, m, 1, m, 0, true);
        division(19, size, 1, 0, 1, 0, 0, false);
        division(19, size, 1, m, 2, m, 1, true);
        division(19, size, 2, 0, 2, 0, 0, false);
        division(19, size, m - 1, m, m, m, m - 1, true);
        division(19, size, m, 0, m, 0, 0, false);
        division(19, size, t - 1, m, t, m, t - 1, true);
        division(19, size, t, 0, t, 0, 0, false);
        division(19, size, 0, t - 1, t, 0, t - 1, true);
        division(19, size, 0, t, t, 1, 0, true);
    }

    private static void divisionsWithSigns(int size) {
        long m = mask(size);
        long t = top(size);
        Due.about("20 (with signs): STOP 5 if x is 0, size " + size);
        division(20, size, 0, 0, 0, 0, 0, false);
        division(20, size, m, m, 0, 0, 0, false);
        Due.about("20: STOP 5 if the quotient does not fit, size " + size);
        division(20, size, 0, t - 1, 1, t - 1, 0, true);
        division(20, size, 0, t, 1, 0, 0, false);
        division(20, size, m, t, 1, t, 0, true);
        division(20, size, m, t - 1, 1, 0, 0, false);
        division(20, size, m, t, m, 0, 0, false);
        division(20, size, m, t + 1, m, t - 1, 0, true);
        division(20, size, 0, t, m, t, 0, true);
        division(20, size, 0, t + 1, m, 0, 0, false);
        division(20, size, 0, m, 2, t - 1, 1, true);
        division(20, size, 1, 0, 2, 0, 0, false);
        division(20, size, m, 0, 2, t, 0, true);
        division(20, size, m - 1, m, 2, t, -1, true);
        division(20, size, m - 1, m - 1, 2, 0, 0, false);
        division(20, size, t, 0, t, 0, 0, false);
        division(20, size, t, 0, m, 0, 0, false);
        Due.about("20: divided by x, towards 0: the quotient and the rest, size " + size);
        division(20, size, 0, 7, 2, 3, 1, true);
        division(20, size, m, -7, 2, -3, -1, true);
        division(20, size, 0, 7, -2, -3, 1, true);
        division(20, size, m, -7, -2, 3, -1, true);
        division(20, size, m, -1, 2, 0, -1, true);
        division(20, size, 0, 1, -2, 0, 1, true);
        division(20, size, 0, t - 1, t, 0, t - 1, true);
        division(20, size, m, t, t, 1, 0, true);
    }

    private static void shortProducts() {
        Due.about("23: y times the third, or x times y: C and O if it does not fit");
        for (int size : new int[] {4, 8}) {
            long m = mask(size);
            long t = top(size);
            long[][] rows = {{1, t, t, 0}, {m, t, t, 1}, {m, t - 1, t + 1, 0}, {2, t >>> 1, t, 1}, {2, (t >>> 1) - 1, t - 2, 0},
                {2, -(t >>> 1), t, 0}, {2, -(t >>> 1) - 1, t - 2, 1}, {0, t, 0, 0}, {m, m, 1, 0}};
            for (long[] row : rows) {
                for (long before : new long[] {0, ALL}) {
                    long after = before & ~(Rig.C | Rig.O) | (row[3] != 0 ? Rig.C | Rig.O : 0);
                    Rig rig = given(23, size, before, row[0], row[1]).reg(1, 5);
                    rig.step("x times y", 0);
                    rig.register("x times y, " + row[0] + " " + row[1], 3, row[2] & m);
                    rig.flags("x times y, " + row[0] + " " + row[1], after);
                    rig = given(23, size, before, 99, row[1]).reg(1, 5).num(2, row[0] == m ? -1 : row[0]);
                    rig.step("y times the third", 0);
                    rig.register("y times the third, " + row[0] + " " + row[1], 3, row[2] & m);
                    rig.flags("y times the third, " + row[0] + " " + row[1], after);
                }
            }
            long y = 3;
            Rig rig = given(23, size, 0, 99, y).reg(1, 5).num(2, Integer.MIN_VALUE);
            rig.step("the least number", 0);
            rig.register("the least number", 3, y * Integer.MIN_VALUE & m);
            rig.flags("the least number", size == 4 ? Rig.C | Rig.O : 0);
        }
    }

    private static Rig shifted(int op, int size, long before, long x, int by) {
        Rig rig = given(op, size, before, x, 0).num(1, by);
        rig.step("op " + op + " by " + by, 0);
        return rig;
    }

    private static void shift(int op, int size, long x, int by, long result, boolean carry) {
        for (long before : new long[] {0, ALL}) {
            String what = "op " + op + " size " + size + " of " + x + " by " + by;
            Rig rig = shifted(op, size, before, x, by);
            rig.register(what, 3, written(OTHERS, result, size));
            long named = op >= 26 ? ZSP | Rig.C : Rig.C;
            long after = (carry ? Rig.C : 0) | (op >= 26 ? zsp(result, size) : 0);
            Due.equal(what + ": flags", rig.m.register(17) & ~(by == 1 ? Rig.O : 0), 2 | before & ~named & ~(by == 1 ? Rig.O : 0) | after);
        }
    }

    private static void shiftsByY(int size) {
        int n = 8 * size;
        int round = size == 8 ? 64 : 32;
        long m = mask(size);
        long t = top(size);
        Due.about("24 to 28, by y taken mod 64 with 8 bytes, else mod 32, size " + size);
        for (int op = 24; op <= 28; op++) {
            for (int by : new int[] {0, round, 2 * round, 255 / round * round}) {
                Rig rig = shifted(op, size, ALL, t | 5, by);
                rig.register("by " + by + " nothing changes", 3, OTHERS & ~m | t | 5);
                rig.flags("by " + by + " nothing changes", ALL);
                rig = shifted(op, size, 0, t | 5, by);
                rig.flags("by " + by + " nothing changes", 0);
            }
            for (int by = 1; by + round <= 255; by++) {
                Rig once = shifted(op, size, 0, t | 5, by % round);
                Rig round1 = shifted(op, size, 0, t | 5, by + round);
                round1.register("op " + op + " by " + (by + round), 3, once.m.register(3));
                Due.equal("op " + op + " by " + (by + round), round1.m.register(17), once.m.register(17));
            }
            Rig byRegister = given(op, size, 0, t | 5, 0).reg(1, 1).put(1, 0x7f00L + round + 3);
            byRegister.step("by rcx", 0);
            byRegister.register("by rcx's lowest byte", 3, shifted(op, size, 0, t | 5, 3).m.register(3));
        }
        Due.about("24 up, 25 down with the bit that goes out coming in at the other end, size " + size);
        shift(24, size, t, 1, 1, true);
        shift(24, size, t - 1, 1, m - 1, false);
        shift(24, size, 1, n - 1, t, false);
        shift(24, size, 2, n - 1, 1, true);
        shift(25, size, 1, 1, t, true);
        shift(25, size, m - 1, 1, t - 1, false);
        shift(25, size, t, n - 1, 1, false);
        shift(25, size, t >>> 1, n - 1, t, true);
        Due.about("26 up, 27 down with 0 coming in, 28 down, the upper bit staying: C is the bit that went out last, size " + size);
        shift(26, size, 1, n - 1, t, false);
        shift(26, size, 2, n - 1, 0, true);
        shift(26, size, m, 1, m - 1, true);
        shift(27, size, t, n - 1, 1, false);
        shift(27, size, t >>> 1, n - 1, 0, true);
        shift(27, size, m, 1, t - 1, true);
        shift(28, size, t, n - 1, m, false);
        shift(28, size, t >>> 1, n - 1, 0, true);
        shift(28, size, m - 1, 1, m, false);
        if (size == 1) {
            Due.about("bit by bit: a byte by more than its bits");
            shift(24, 1, 0x81, 8, 0x81, true);
            shift(24, 1, 0x7e, 8, 0x7e, false);
            shift(24, 1, 0x81, 31, 0xc0, false);
            shift(25, 1, 0x81, 8, 0x81, true);
            shift(25, 1, 0x7e, 16, 0x7e, false);
            shift(25, 1, 0x81, 31, 0x03, false);
            shift(26, 1, 1, 8, 0, true);
            shift(26, 1, 0xff, 9, 0, false);
            shift(26, 1, 0xff, 31, 0, false);
            shift(27, 1, 0x80, 8, 0, true);
            shift(27, 1, 0xff, 9, 0, false);
            shift(28, 1, 0x80, 8, 0xff, true);
            shift(28, 1, 0x80, 31, 0xff, true);
            shift(28, 1, 0x7f, 9, 0, false);
        }
    }

    private static void shiftsByOne(int size) {
        long m = mask(size);
        long t = top(size);
        long second = t >>> 1;
        long[] values = {0, m, t, second, t | second, 1, t | 1, m ^ t, m ^ second, m ^ t ^ second};
        for (int op = 24; op <= 28; op++) {
            Due.about("By 1: O, op " + op + " size " + size);
            for (long x : values) {
                boolean up = (x & t) != 0;
                boolean next = (x & second) != 0;
                boolean low = (x & 1) != 0;
                boolean[] due = {up != next, low != up, up != next, up, false};
                for (int by : new int[] {1, size == 8 ? 65 : 33}) {
                    for (long before : new long[] {0, ALL}) {
                        Rig rig = shifted(op, size, before, x, by);
                        Due.equal("O of " + x + " by " + by, rig.m.register(17) & Rig.O, due[op - 24] ? Rig.O : 0);
                    }
                }
                for (long before : new long[] {0, ALL}) {
                    Rig rig = shifted(op, size, before, x, 2);
                    Due.equal("O stays by 2", rig.m.register(17) & Rig.O, before & Rig.O);
                }
            }
        }
    }

    private static void comparedAndExchanged(int size) {
        Due.about("49: flags as by cmp of al, eax or rax with x; if they are the same, x becomes y, else al, eax or rax becomes x, size " + size);
        long m = mask(size);
        long t = top(size);
        long[][] rows = {{0, 0, 0}, {m, m, 0}, {t, t, 0}, {0, 1, Rig.C}, {t, 1, Rig.O}, {t - 1, m, Rig.C | Rig.O}, {0, t, Rig.C | Rig.O}, {m, 0, 0}};
        for (long[] row : rows) {
            for (long before : new long[] {0, ALL}) {
                String what = "rax " + row[0] + " x " + row[1];
                Rig rig = given(49, size, before, row[1], 9).reg(1, 5);
                long x = rig.m.register(3);
                rig.put(0, OTHERS & ~m | row[0]).step(what, 0);
                boolean same = row[0] == row[1];
                rig.register(what, 3, same ? written(x, 9, size) : x);
                rig.register(what, 0, same ? OTHERS & ~m | row[0] : written(OTHERS, row[1], size));
                rig.register(what, 5, OTHERS & ~m | 9);
                rig.flags(what, row[2] | zsp(row[0] - row[1], size));
            }
        }
        Rig rig = new Rig();
        rig.put(0, OTHERS).put(5, 9).tell(49, size).reg(0, 0).reg(1, 5).step("x is rax", 0);
        rig.register("x is rax", 0, written(OTHERS, 9, size));
    }

    private static void widened() {
        Due.about("12, 13, 14: y, without a sign by 12, with it by 13, 14");
        long[][] rows = {{12, 4, 0x7f, 0x7f}, {12, 4, 0x80, 0x80}, {12, 8, 0xff, 0xff}, {12, 8, 0x100, 0}, {13, 4, 0x7f, 0x7f},
            {13, 4, 0x80, 0xffffff80L}, {13, 8, 0x80, -128}, {13, 8, 0xff, -1}, {13, 8, 0x17f, 0x7f}, {14, 8, 0x7fffffffL, 0x7fffffffL},
            {14, 8, 0x80000000L, Integer.MIN_VALUE}, {14, 8, 0xffffffffL, -1}, {14, 8, 0x17fffffffL, 0x7fffffffL}};
        for (long[] row : rows) {
            Rig rig = new Rig();
            rig.put(3, -1).put(5, row[2]).tell((int) row[0], (int) row[1]).reg(0, 3).reg(1, 5).step("op " + row[0], 0);
            rig.register("op " + row[0] + " size " + row[1] + " of " + row[2], 3, row[3]);
            rig.poke(Rig.STACK_END - 8, 8, row[2]);
            rig.put(3, -1).tell((int) row[0], (int) row[1]).reg(0, 3).at(1, Rig.STACK_END - 8).step("op " + row[0], 0);
            rig.register("op " + row[0] + " size " + row[1] + " of " + row[2] + " in memory", 3, row[3]);
        }
    }

    private static void jumps() {
        Due.about("31 jump to x (a number: so far from the next address; also by 32, 34)");
        long[] places = {0, 0x400000L, -3, Long.MAX_VALUE, Long.MIN_VALUE, -1};
        for (int op : new int[] {31, 32, 34}) {
            for (long ip : places) {
                for (int far : new int[] {0, 1, -1, -3, Integer.MIN_VALUE, Integer.MAX_VALUE}) {
                    Rig rig = new Rig();
                    rig.put(16, ip).when(op, 0, op == 34 ? 1 : 0).num(0, far).step("op " + op, 0);
                    rig.register("op " + op + " from " + ip + " by " + far, 16, ip + 3 + far);
                }
            }
        }
        for (int op : new int[] {31, 32}) {
            for (long to : places) {
                Rig rig = new Rig();
                rig.put(5, to).tell(op, 0).reg(0, 5).step("op " + op, 0);
                rig.register("op " + op + " to a register", 16, to);
                rig.put(5, Rig.STACK_END - 64).poke(Rig.STACK_END - 64, 8, to);
                rig.tell(op, 0).mem(0).m.memory(5, -1, 1, 0);
                rig.step("op " + op, 0);
                rig.register("op " + op + " to what is in memory", 16, to);
            }
        }
        Due.about("32: the next address is pushed, jump to x (read first)");
        Rig rig = new Rig();
        rig.put(16, -2).tell(32, 0).reg(0, 4).step("call rsp", 0);
        rig.register("rsp as it was", 16, Rig.STACK_END);
        Due.equal("the next address goes round", rig.word(Rig.STACK_END - 8, 8), 1);
        rig.put(16, Long.MAX_VALUE).put(4, Rig.STACK_END).m.memory(4, -1, 1, -8);
        rig.tell(32, 0).mem(0).step("call by what is where it pushes", 0);
        rig.register("read first", 16, 1);
        Due.equal("pushed", rig.word(Rig.STACK_END - 8, 8), Long.MIN_VALUE + 2);
    }

    private static boolean holds(int condition, long f) {
        boolean o = (f & Rig.O) != 0;
        boolean c = (f & Rig.C) != 0;
        boolean z = (f & Rig.Z) != 0;
        boolean s = (f & Rig.S) != 0;
        boolean p = (f & Rig.P) != 0;
        switch (condition) {
            case 0: return o;
            case 1: return !o;
            case 2: return c;
            case 3: return !c;
            case 4: return z;
            case 5: return !z;
            case 6: return c || z;
            case 7: return !c && !z;
            case 8: return s;
            case 9: return !s;
            case 10: return p;
            case 11: return !p;
            case 12: return s != o;
            case 13: return s == o;
            case 14: return z || s != o;
            default: return !z && s == o;
        }
    }

    private static void conditions() {
        for (int condition = 0; condition < 16; condition++) {
            Due.about("CONDITION " + condition + ", for 34 a jump, 35: 1 or 0, 36: y, else x itself");
            for (int set = 0; set < 32; set++) {
                long flags = Rig.flagsOf(set);
                boolean so = holds(condition, flags);
                Rig rig = new Rig();
                rig.setFlags(flags);
                rig.put(16, 100).when(34, 0, condition).num(0, 50).step("34", 0);
                rig.register("34 with flags " + flags, 16, so ? 153 : 103);
                rig.put(3, OTHERS).when(35, 1, condition).reg(0, 3).step("35", 0);
                rig.register("35 with flags " + flags, 3, OTHERS & ~255L | (so ? 1 : 0));
                for (int size : new int[] {4, 8}) {
                    rig.put(3, OTHERS).put(5, ~OTHERS).when(36, size, condition).reg(0, 3).reg(1, 5).step("36", 0);
                    rig.register("36 with flags " + flags, 3, (so ? ~OTHERS : OTHERS) & mask(size));
                }
                rig.flags("they stay", flags);
            }
        }
    }

    private static void spreadSigns() {
        Due.about("37: edx or rdx gets bits like the upper bit of eax or rax");
        long[] values = {0, 0x7fffffffL, 0x80000000L, 0xffffffffL, 0x100000000L, Long.MAX_VALUE, Long.MIN_VALUE, -1, 0x8000, 0x7fff, 0xffff7fffL, 0x18000L};
        for (long v : values) {
            Rig rig = new Rig();
            rig.put(0, v).put(2, OTHERS).tell(37, 4).step("37", 0);
            rig.register("37 of " + v, 2, (v & 0x80000000L) != 0 ? 0xffffffffL : 0);
            rig.put(2, OTHERS).tell(37, 8).step("37", 0);
            rig.register("37 of " + v, 2, v < 0 ? -1 : 0);
            rig.register("37 leaves rax", 0, v);
        }
        Due.about("38: eax gets its lower two bytes, rax its lower four, with their sign");
        for (long v : values) {
            Rig rig = new Rig();
            rig.put(0, v).put(2, OTHERS).tell(38, 4).step("38", 0);
            rig.register("38 of " + v, 0, (v & 0x8000) != 0 ? v & 0x7fff | 0xffff8000L : v & 0x7fff);
            rig.put(0, v).tell(38, 8).step("38", 0);
            rig.register("38 of " + v, 0, (v & 0x80000000L) != 0 ? v & 0x7fffffffL | 0xffffffff80000000L : v & 0x7fffffffL);
            rig.register("38 leaves rdx", 2, OTHERS);
        }
    }

    private static void searches() {
        Due.about("44, 45: Z is y = 0; if it is not, x is the number of its lowest, highest bit that is 1, else it stays");
        for (int size : new int[] {4, 8}) {
            for (int op = 44; op <= 45; op++) {
                for (long before : new long[] {0, ALL}) {
                    for (int bit = 0; bit < 8 * size; bit++) {
                        long y = op == 44 ? -1L << bit : mask(8) >>> 63 - bit;
                        Rig rig = given(op, size, before, 99, y).reg(1, 5);
                        rig.step("op " + op, 0);
                        rig.register("op " + op + " size " + size + " of " + y, 3, bit);
                        rig.flags("op " + op + " size " + size + " of " + y, before & ~Rig.Z);
                    }
                    Rig rig = given(op, size, before, 99, 0).reg(1, 5);
                    rig.step("op " + op, 0);
                    rig.register("op " + op + " of 0", 3, OTHERS & ~mask(size) | 99);
                    rig.flags("op " + op + " of 0", before | Rig.Z);
                }
            }
        }
    }

    private static void turnedBytes() {
        Due.about("46: bytes in the opposite order");
        long[][] rows = {{4, 0x1122334455667788L, 0x88776655L}, {8, 0x1122334455667788L, 0x8877665544332211L}, {4, 0x80, 0x80000000L},
            {8, 0x80, Long.MIN_VALUE}, {4, 0xff000000L, 0xff}, {8, 0xffL << 56, 0xff}, {8, 1L << 32, 1L << 24}, {4, -1, 0xffffffffL}};
        for (long[] row : rows) {
            Rig rig = new Rig();
            rig.put(3, row[1]).tell(46, (int) row[0]).reg(0, 3).step("46", 0);
            rig.register("46 of " + row[1], 3, row[2]);
        }
    }

    private static void bitsOfX() {
        Due.about("47: C is bit y of x, y taken mod 32 or 64");
        for (int size : new int[] {4, 8}) {
            for (int y = 0; y < 256; y++) {
                int bit = y % (8 * size);
                for (long x : new long[] {1L << bit, ~(1L << bit)}) {
                    for (long before : new long[] {0, ALL}) {
                        long after = before & ~Rig.C | (x == 1L << bit ? Rig.C : 0);
                        Rig rig = new Rig();
                        rig.setFlags(before);
                        rig.put(3, x).put(5, y - 256L * y).tell(47, size).reg(0, 3).num(1, y).step("47", 0);
                        rig.flags("bit " + y + " of " + x, after);
                        rig.setFlags(before);
                        rig.tell(47, size).reg(0, 3).reg(1, 5).step("47", 0);
                        rig.flags("bit " + y + " of " + x + " by a register", after);
                        rig.register("x stays", 3, x);
                    }
                }
            }
        }
    }

    private static void repeated() {
        Due.about("52, 53: if rcx is 0, nothing; else once as 50, 51, rcx falls by 1, and if it is not 0 then, IP stays");
        long cell = Rig.STACK_END - 64;
        for (int size : SIZES) {
            for (int op = 50; op <= 53; op++) {
                for (long rcx : new long[] {0, 1, 2, -1, Long.MIN_VALUE, 1L << 32}) {
                    Rig rig = new Rig();
                    rig.poke(cell, 8, OTHERS);
                    rig.put(0, ~OTHERS).put(1, rcx).put(6, cell).put(7, cell + 16).tell(op, size).step("op " + op, 0);
                    boolean repeats = op >= 52;
                    boolean done = !repeats || rcx != 0;
                    boolean copies = op == 50 || op == 52;
                    String what = "op " + op + " size " + size + " rcx " + rcx;
                    rig.register(what, 1, repeats && done ? rcx - 1 : rcx);
                    rig.register(what, 16, repeats && done && rcx != 1 ? 0x400000L : 0x400003L);
                    rig.register(what, 6, cell + (done && copies ? size : 0));
                    rig.register(what, 7, cell + 16 + (done ? size : 0));
                    rig.register(what, 0, ~OTHERS);
                    rig.register(what, 19, 1);
                    Due.equal(what, rig.word(cell + 16, 8), !done ? 0 : (copies ? OTHERS : ~OTHERS) & mask(size));
                }
            }
        }
        Rig rig = new Rig();
        rig.put(1, 0).put(6, 5).put(7, 5).tell(52, 8).step("if rcx is 0, nothing", 0);
        rig.tell(53, 8).step("if rcx is 0, nothing", 0);
        rig.register("rdi stays", 7, 5);
    }

    private static void stopsOfOps() {
        Due.about("STOP 2: op 41 (value 0): all is as before the step");
        Rig rig = new Rig();
        rig.setFlags(ALL);
        rig.put(5, 0x1000).tell(8, 8).reg(0, 3).mem(1).m.memory(5, -1, 1, 0);
        rig.stops("a stop ahead of it", 3, 0x1000);
        rig.tell(41, 0).stops("41", 2, 0);
        Due.about("STOP 6: op 40 (value 0): behind it IP is the next one's");
        rig.tell(8, 8).reg(0, 3).mem(1).stops("a stop ahead of it", 3, 0x1000);
        long steps = rig.m.register(19);
        rig.put(16, -3).tell(40, 0).step("40", 6);
        Due.equal("value", rig.m.value(), 0);
        rig.register("IP", 16, 0);
        rig.register("steps", 19, steps + 1);
        rig.flags("flags", ALL);
        rig.step("40 again: the program goes on", 6);
        rig.tell(39, 0).step("39 nothing", 0);
        rig.register("IP", 16, 6);
    }
}
