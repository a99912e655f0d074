/** 'Terms', sentence by sentence at the edges: ops of sums, differences and bits one with one, and what a written register keeps. */
public final class EdgesOfSumsTest {
    private static final int[] SIZES = {1, 4, 8};

    public static void main(String[] args) {
        for (int size : SIZES) {
            sums(size);
            differences(size);
            bitsOneWithOne(size);
            oneMoreOneLess(size);
            comparedAndExchanged(size);
        }
        zeroSignParity();
        writtenRegisters();
        numbersWithTheirSign();
        Due.end();
    }

    /** A row of two operands: C and O are told, zsp are the result's; the flags before are all, but C is told, or none. */
    private static void row(int op, int size, long carryIn, long x, long y, long result, long carryAndO) {
        for (long before : new long[] {carryIn, Edge.ALL & ~Rig.C | carryIn}) {
            String what = "op " + op + " size " + size + " of " + x + ", " + y + " with flags " + before;
            Rig rig = Edge.given(op, size, before, x, y);
            if (op != 16 && op != 21 && op != 22) {
                rig.reg(1, 5);
            }
            long old = rig.m.register(3);
            rig.step(what, 0);
            rig.register(what, 3, op == 7 || op == 9 ? old : Edge.written(old, result, size));
            rig.flags(what, carryAndO | Edge.zsp(result, size));
        }
    }

    private static void sums(int size) {
        long m = Samples.mask(size);
        long t = Edge.top(size);
        for (int op : new int[] {0, 48, 2}) {
            Due.about(op + ": C, O if the sum without signs, with signs, does not fit; zsp; size " + size);
            row(op, size, 0, 0, 0, 0, 0);
            row(op, size, 0, m - 1, 1, m, 0);
            row(op, size, 0, m, 1, 0, Rig.C);
            row(op, size, 0, t - 2, 1, t - 1, 0);
            row(op, size, 0, t - 1, 1, t, Rig.O);
            row(op, size, 0, t, t, 0, Rig.C | Rig.O);
            row(op, size, 0, t, m, t - 1, Rig.C | Rig.O);
            row(op, size, 0, t + 1, m, t, Rig.C);
            row(op, size, 0, m, m, m - 1, Rig.C);
            row(op, size, 0, t - 1, t, m, 0);
        }
        Due.about("2 (+ C), size " + size);
        row(2, size, Rig.C, 0, 0, 1, 0);
        row(2, size, Rig.C, m - 1, 0, m, 0);
        row(2, size, Rig.C, m, 0, 0, Rig.C);
        row(2, size, Rig.C, 0, m, 0, Rig.C);
        row(2, size, Rig.C, m, m, m, Rig.C);
        row(2, size, Rig.C, t - 2, 0, t - 1, 0);
        row(2, size, Rig.C, t - 1, 0, t, Rig.O);
        row(2, size, Rig.C, t - 1, t, 0, Rig.C);
        row(2, size, Rig.C, t, m, t, Rig.C);
        row(2, size, Rig.C, t, t, 1, Rig.C | Rig.O);
        Due.about("0, 48: without C, size " + size);
        row(0, size, Rig.C, m, 0, m, 0);
        row(48, size, Rig.C, m, 0, m, 0);
        Due.about("48 xadd (y becomes x ahead of it), size " + size);
        for (int y = 0; y < 16; y++) {
            Rig rig = new Rig();
            Due.yes("begin", rig.m.begin(4096, 0, 0, 0, 0, 4096));
            rig.poke(0x400100L, 8, Edge.OTHERS);
            rig.put(y, Edge.OTHERS & ~m | 5).tell(48, size).at(0, 0x400100L).reg(1, y).step("xadd", 0);
            rig.register("y is register " + y, y, Edge.written(Edge.OTHERS, Edge.OTHERS, size));
            Due.equal("memory by register " + y, rig.word(0x400100L, 8), Edge.OTHERS & ~m | Edge.OTHERS + 5 & m);
            rig.put(3, Edge.OTHERS & ~m | 7).put(y, Edge.OTHERS & ~m | 7).tell(48, size).reg(0, 3).reg(1, y).step("xadd", 0);
            rig.register("sum by register " + y, 3, Edge.written(Edge.OTHERS, 14, size));
            rig.register("y is register " + y, y, Edge.written(Edge.OTHERS, y == 3 ? 14 : 7, size));
        }
    }

    private static void differences(int size) {
        long m = Samples.mask(size);
        long t = Edge.top(size);
        for (int op : new int[] {5, 7, 3}) {
            Due.about(op + ": likewise of the difference, size " + size);
            row(op, size, 0, 0, 0, 0, 0);
            row(op, size, 0, 1, 1, 0, 0);
            row(op, size, 0, 0, 1, m, Rig.C);
            row(op, size, 0, m, m, 0, 0);
            row(op, size, 0, m - 1, m, m, Rig.C);
            row(op, size, 0, t, 1, t - 1, Rig.O);
            row(op, size, 0, t + 1, 1, t, 0);
            row(op, size, 0, t - 1, m, t, Rig.C | Rig.O);
            row(op, size, 0, t - 2, m, t - 1, Rig.C);
            row(op, size, 0, 0, t, t, Rig.C | Rig.O);
            row(op, size, 0, m, t, t - 1, 0);
        }
        Due.about("3 (- C), size " + size);
        row(3, size, Rig.C, 1, 0, 0, 0);
        row(3, size, Rig.C, 0, 0, m, Rig.C);
        row(3, size, Rig.C, 0, m, 0, Rig.C);
        row(3, size, Rig.C, m, m, m, Rig.C);
        row(3, size, Rig.C, t, 0, t - 1, Rig.O);
        row(3, size, Rig.C, t + 1, 0, t, 0);
        row(3, size, Rig.C, t - 1, m, t - 1, Rig.C);
        row(3, size, Rig.C, 0, t, t - 1, Rig.C);
        Due.about("5, 7: without C, size " + size);
        row(5, size, Rig.C, 0, 0, 0, 0);
        row(7, size, Rig.C, 0, 0, 0, 0);
        Due.about("16 neg (0 - x): likewise, size " + size);
        row(16, size, Rig.C, 0, 9, 0, 0);
        row(16, size, 0, 1, 9, m, Rig.C);
        row(16, size, 0, m, 9, 1, Rig.C);
        row(16, size, 0, t, 9, t, Rig.C | Rig.O);
        row(16, size, 0, t - 1, 9, t + 1, Rig.C);
        row(16, size, 0, t + 1, 9, t - 1, Rig.C);
    }

    private static void bitsOneWithOne(int size) {
        long m = Samples.mask(size);
        long t = Edge.top(size);
        Due.about("1 or, 4 and, 6 exclusive or, 9 test: C, O 0, zsp, size " + size);
        long[][] pairs = {{0, 0}, {0, m}, {m, m}, {t, 1}, {t, t}, {m ^ t, t}, {0x55, 0xaa}, {0x0f, 0x3c}};
        for (long[] pair : pairs) {
            for (long carry : new long[] {0, Rig.C}) {
                row(1, size, carry, pair[0], pair[1], pair[0] | pair[1], 0);
                row(4, size, carry, pair[0], pair[1], pair[0] & pair[1], 0);
                row(6, size, carry, pair[0], pair[1], pair[0] ^ pair[1], 0);
                row(9, size, carry, pair[0], pair[1], pair[0] & pair[1], 0);
            }
        }
        Due.about("15 not, size " + size);
        for (long x : new long[] {0, m, t, 0x5a}) {
            for (long before : new long[] {0, Edge.ALL}) {
                Rig rig = Edge.given(15, size, before, x, 0);
                long old = rig.m.register(3);
                rig.step("not " + x, 0);
                rig.register("not " + x, 3, Edge.written(old, ~x, size));
                rig.flags("not " + x, before);
            }
        }
    }

    private static void oneMoreOneLess(int size) {
        long m = Samples.mask(size);
        long t = Edge.top(size);
        for (long carry : new long[] {0, Rig.C}) {
            Due.about("21 x + 1: O, zsp; C stays, size " + size);
            row(21, size, carry, 0, 0, 1, carry);
            row(21, size, carry, m, 0, 0, carry);
            row(21, size, carry, t - 1, 0, t, carry | Rig.O);
            row(21, size, carry, t, 0, t + 1, carry);
            Due.about("22 x - 1: O, zsp; C stays, size " + size);
            row(22, size, carry, 1, 0, 0, carry);
            row(22, size, carry, 0, 0, m, carry);
            row(22, size, carry, t, 0, t - 1, carry | Rig.O);
            row(22, size, carry, t + 1, 0, t, carry);
        }
    }

    private static void zeroSignParity() {
        Due.about("Z if the result is 0, S its upper bit, P if its lowest byte has an even number of bits 1");
        for (int size : SIZES) {
            for (int bit = 0; bit < 8 * size; bit++) {
                row(1, size, 0, 1L << bit, 0, 1L << bit, 0);
                row(1, size, 0, 1L << bit, 3, 1L << bit | 3, 0);
            }
        }
        for (int low = 0; low < 256; low++) {
            row(1, 8, 0, low, 0, low, 0);
        }
    }

    private static void writtenRegisters() {
        Due.about("A register of 4 bytes that is written has its upper half 0; of 1 byte: the others stay");
        String[] rows = {"0 rr", "8 rr", "10 rr", "15 r", "21 r", "26 ri", "8 ri", "48 rr"};
        for (String row : rows) {
            for (int size : SIZES) {
                Rig rig = new Rig();
                rig.m.number(1);
                rig.put(3, Edge.OTHERS).put(5, Edge.OTHERS).tell(Integer.parseInt(row.split(" ")[0]), size).kinds(row.split(" ")[1]).step(row, 0);
                long above = rig.m.register(3) & ~Samples.mask(size);
                Due.equal(row + " size " + size, above, size == 1 ? Edge.OTHERS & ~255L : 0);
            }
        }
        Rig rig = new Rig();
        rig.put(3, -1).put(5, 0).when(36, 4, 4).reg(0, 3).reg(1, 5).step("36, not so", 0);
        rig.register("36: in any case written", 3, 0xffffffffL);
        rig.put(3, -1).put(5, 0).tell(44, 4).reg(0, 3).reg(1, 5).step("44 of 0", 0);
        rig.register("44: else it stays", 3, -1);
        rig.put(3, -1).tell(26, 4).reg(0, 3).num(1, 0).step("26 by 0", 0);
        rig.register("26: by 0 nothing changes", 3, -1);
    }

    private static void numbersWithTheirSign() {
        Due.about("Numbers are taken with their sign to the size");
        long[][] rows = {{1, -128, 0x80}, {1, 127, 0x7f}, {1, -1, 0xff}, {4, -1, 0xffffffffL}, {4, Integer.MIN_VALUE, 0x80000000L},
            {4, Integer.MAX_VALUE, 0x7fffffffL}, {8, -1, -1}, {8, Integer.MIN_VALUE, Integer.MIN_VALUE}, {8, Integer.MAX_VALUE, Integer.MAX_VALUE}};
        for (long[] row : rows) {
            int size = (int) row[0];
            for (int op : new int[] {0, 1, 6, 8}) {
                Rig rig = new Rig();
                rig.tell(op, size).reg(0, 3).num(1, row[1]).step("op " + op, 0);
                rig.register("op " + op + " size " + size + " number " + row[1], 3, row[2]);
            }
        }
        for (long v : new long[] {Long.MIN_VALUE, Long.MAX_VALUE, 0x80000000L}) {
            Rig rig = new Rig();
            rig.tell(8, 8).reg(0, 3).num(1, v).step("mov", 0);
            rig.register("any number by 8", 3, v);
        }
        for (long v : new long[] {Integer.MIN_VALUE, -1, 0, Integer.MAX_VALUE}) {
            Rig rig = new Rig();
            rig.tell(29, 8).num(0, v).step("push", 0);
            Due.equal("pushed", rig.word(Rig.STACK_END - 8, 8), v);
        }
    }

    private static void comparedAndExchanged(int size) {
        Due.about("49: flags as by cmp of al, eax or rax with x; if they are the same, x becomes y, else al, eax or rax becomes x, size " + size);
        long m = Samples.mask(size);
        long t = Edge.top(size);
        long[][] rows = {{0, 0, 0}, {m, m, 0}, {t, t, 0}, {0, 1, Rig.C}, {t, 1, Rig.O}, {t - 1, m, Rig.C | Rig.O}, {0, t, Rig.C | Rig.O}, {m, 0, 0}};
        for (long[] row : rows) {
            for (long before : new long[] {0, Edge.ALL}) {
                String what = "rax " + row[0] + " x " + row[1];
                Rig rig = Edge.given(49, size, before, row[1], 9).reg(1, 5);
                long x = rig.m.register(3);
                rig.put(0, Edge.OTHERS & ~m | row[0]).step(what, 0);
                boolean same = row[0] == row[1];
                rig.register(what, 3, same ? Edge.written(x, 9, size) : x);
                rig.register(what, 0, same ? Edge.OTHERS & ~m | row[0] : Edge.written(Edge.OTHERS, row[1], size));
                rig.register(what, 5, Edge.OTHERS & ~m | 9);
                rig.flags(what, row[2] | Edge.zsp(row[0] - row[1], size));
            }
        }
        Rig rig = new Rig();
        rig.put(0, Edge.OTHERS).put(5, 9).tell(49, size).reg(0, 0).reg(1, 5).step("x is rax", 0);
        rig.register("x is rax", 0, Edge.written(Edge.OTHERS, 9, size));
    }
}
