/** 'Terms', sentence by sentence at the edges: flags that stay, widened values, jumps, conditions, repeated ops and stops. */
public final class EdgesOfFlowTest {
    private static final int[] SIZES = {1, 4, 8};

    public static void main(String[] args) {
        flagsThatStay();
        widened();
        jumps();
        conditions();
        repeated();
        stopsOfOps();
        Due.end();
    }

    private static void flagsThatStay() {
        Due.about("flags that are not named stay");
        String[] rows = {"8 8 rr 0", "10 4 rr 0", "11 8 rm 0", "12 4 rr 0", "13 8 rr 0", "14 8 rr 0", "15 1 r 0", "17 1 r 2049", "18 8 r 2049",
            "19 4 r 0", "20 8 r 0", "21 8 r 2244", "22 1 r 2244", "23 4 rr 2049", "23 8 rri 2049", "29 8 r 0", "30 8 r 0", "31 0 i 0", "32 0 i 0",
            "33 0 n 0", "34 0 i 0", "35 1 r 0", "36 4 rr 0", "37 4 n 0", "38 8 n 0", "39 0 n 0", "40 0 n 0", "41 0 n 0", "42 0 n 0", "43 0 n 0",
            "44 4 rr 64", "45 8 rr 64", "46 8 r 0", "47 4 ri 1", "50 1 n 0", "51 4 n 0", "52 8 n 0", "53 1 n 0", "8 8 rm 0"};
        for (String row : rows) {
            String[] parts = row.split(" ");
            for (int set = 0; set < 32; set++) {
                Rig rig = new Rig();
                rig.setFlags(Rig.flagsOf(set));
                rig.m.memory(-1, -1, 1, 0x1000);
                rig.m.number(9);
                for (int k = 0; k < 16; k++) {
                    rig.put(k, Rig.STACK_END - 512);
                }
                rig.put(0, 60).put(2, 0).put(3, 7);
                rig.tell(Integer.parseInt(parts[0]), Integer.parseInt(parts[1])).kinds(parts[2]);
                Due.yes(row + " is done", rig.m.step(3) >= 0);
                long named = Long.parseLong(parts[3]);
                Due.equal(row + " with flags " + Rig.flagsOf(set), rig.m.register(17) & ~named, (2 | Rig.flagsOf(set)) & ~named);
            }
        }
    }

    private static void widened() {
        Due.about("12, 13, 14: y, without a sign by 12, with it by 13, 14");
        long[][] rows = {{12, 4, 0x7f, 0x7f}, {12, 4, 0x80, 0x80}, {12, 8, 0xff, 0xff}, {12, 8, 0x100, 0}, {13, 4, 0x7f, 0x7f},
            {13, 4, 0x80, 0xffffff80L}, {13, 8, 0x80, -128}, {13, 8, 0xff, -1}, {13, 8, 0x17f, 0x7f}, {14, 8, 0x7fffffffL, 0x7fffffffL},
            {14, 8, 0x80000000L, Integer.MIN_VALUE}, {14, 8, 0xffffffffL, -1}, {14, 8, 0x17fffffffL, 0x7fffffffL}};
        for (long[] row : rows) {
            Rig rig = new Rig();
            rig.put(3, -1).put(5, row[2]).tell((int) row[0], (int) row[1]).reg(0, 3).reg(1, 5).step("op " + row[0], 0);
            rig.register("op " + row[0] + " size " + row[1] + " of " + row[2], 3, row[3]);
            rig.poke(Rig.STACK_END - 8, 8, row[2]);
            rig.put(3, -1).tell((int) row[0], (int) row[1]).reg(0, 3).at(1, Rig.STACK_END - 8).step("op " + row[0], 0);
            rig.register("op " + row[0] + " size " + row[1] + " of " + row[2] + " in memory", 3, row[3]);
        }
    }

    private static void jumps() {
        Due.about("31 jump to x (a number: so far from the next address; also by 32, 34)");
        long[] places = {0, 0x400000L, -3, Long.MAX_VALUE, Long.MIN_VALUE, -1};
        for (int op : new int[] {31, 32, 34}) {
            for (long ip : places) {
                for (int far : new int[] {0, 1, -1, -3, Integer.MIN_VALUE, Integer.MAX_VALUE}) {
                    Rig rig = new Rig();
                    rig.put(16, ip).when(op, 0, op == 34 ? 1 : 0).num(0, far).step("op " + op, 0);
                    rig.register("op " + op + " from " + ip + " by " + far, 16, ip + 3 + far);
                }
            }
        }
        for (int op : new int[] {31, 32}) {
            for (long to : places) {
                Rig rig = new Rig();
                rig.put(5, to).tell(op, 0).reg(0, 5).step("op " + op, 0);
                rig.register("op " + op + " to a register", 16, to);
                rig.put(5, Rig.STACK_END - 64).poke(Rig.STACK_END - 64, 8, to);
                rig.tell(op, 0).mem(0).m.memory(5, -1, 1, 0);
                rig.step("op " + op, 0);
                rig.register("op " + op + " to what is in memory", 16, to);
            }
        }
        Due.about("32: the next address is pushed, jump to x (read first)");
        Rig rig = new Rig();
        rig.put(16, -2).tell(32, 0).reg(0, 4).step("call rsp", 0);
        rig.register("rsp as it was", 16, Rig.STACK_END);
        Due.equal("the next address goes round", rig.word(Rig.STACK_END - 8, 8), 1);
        rig.put(16, Long.MAX_VALUE).put(4, Rig.STACK_END).m.memory(4, -1, 1, -8);
        rig.tell(32, 0).mem(0).step("call by what is where it pushes", 0);
        rig.register("read first", 16, 1);
        Due.equal("pushed", rig.word(Rig.STACK_END - 8, 8), Long.MIN_VALUE + 2);
    }

    private static boolean holds(int condition, long f) {
        boolean o = (f & Rig.O) != 0;
        boolean c = (f & Rig.C) != 0;
        boolean z = (f & Rig.Z) != 0;
        boolean s = (f & Rig.S) != 0;
        boolean p = (f & Rig.P) != 0;
        switch (condition) {
            case 0: return o;
            case 1: return !o;
            case 2: return c;
            case 3: return !c;
            case 4: return z;
            case 5: return !z;
            case 6: return c || z;
            case 7: return !c && !z;
            case 8: return s;
            case 9: return !s;
            case 10: return p;
            case 11: return !p;
            case 12: return s != o;
            case 13: return s == o;
            case 14: return z || s != o;
            default: return !z && s == o;
        }
    }

    private static void conditions() {
        for (int condition = 0; condition < 16; condition++) {
            Due.about("CONDITION " + condition + ", for 34 a jump, 35: 1 or 0, 36: y, else x itself");
            for (int set = 0; set < 32; set++) {
                long flags = Rig.flagsOf(set);
                boolean so = holds(condition, flags);
                Rig rig = new Rig();
                rig.setFlags(flags);
                rig.put(16, 100).when(34, 0, condition).num(0, 50).step("34", 0);
                rig.register("34 with flags " + flags, 16, so ? 153 : 103);
                rig.put(3, Edge.OTHERS).when(35, 1, condition).reg(0, 3).step("35", 0);
                rig.register("35 with flags " + flags, 3, Edge.OTHERS & ~255L | (so ? 1 : 0));
                for (int size : new int[] {4, 8}) {
                    rig.put(3, Edge.OTHERS).put(5, ~Edge.OTHERS).when(36, size, condition).reg(0, 3).reg(1, 5).step("36", 0);
                    rig.register("36 with flags " + flags, 3, (so ? ~Edge.OTHERS : Edge.OTHERS) & Samples.mask(size));
                }
                rig.flags("they stay", flags);
            }
        }
    }

    private static void repeated() {
        Due.about("52, 53: if rcx is 0, nothing; else once as 50, 51, rcx falls by 1, and if it is not 0 then, IP stays");
        long cell = Rig.STACK_END - 64;
        for (int size : SIZES) {
            for (int op = 50; op <= 53; op++) {
                for (long rcx : new long[] {0, 1, 2, -1, Long.MIN_VALUE, 1L << 32}) {
                    Rig rig = new Rig();
                    rig.poke(cell, 8, Edge.OTHERS);
                    rig.put(0, ~Edge.OTHERS).put(1, rcx).put(6, cell).put(7, cell + 16).tell(op, size).step("op " + op, 0);
                    boolean repeats = op >= 52;
                    boolean done = !repeats || rcx != 0;
                    boolean copies = op == 50 || op == 52;
                    String what = "op " + op + " size " + size + " rcx " + rcx;
                    rig.register(what, 1, repeats && done ? rcx - 1 : rcx);
                    rig.register(what, 16, repeats && done && rcx != 1 ? 0x400000L : 0x400003L);
                    rig.register(what, 6, cell + (done && copies ? size : 0));
                    rig.register(what, 7, cell + 16 + (done ? size : 0));
                    rig.register(what, 0, ~Edge.OTHERS);
                    rig.register(what, 19, 1);
                    Due.equal(what, rig.word(cell + 16, 8), !done ? 0 : (copies ? Edge.OTHERS : ~Edge.OTHERS) & Samples.mask(size));
                }
            }
        }
        Rig rig = new Rig();
        rig.put(1, 0).put(6, 5).put(7, 5).tell(52, 8).step("if rcx is 0, nothing", 0);
        rig.tell(53, 8).step("if rcx is 0, nothing", 0);
        rig.register("rdi stays", 7, 5);
    }

    private static void stopsOfOps() {
        Due.about("STOP 2: op 41 (value 0): all is as before the step");
        Rig rig = new Rig();
        rig.setFlags(Edge.ALL);
        rig.put(5, 0x1000).tell(8, 8).reg(0, 3).mem(1).m.memory(5, -1, 1, 0);
        rig.stops("a stop ahead of it", 3, 0x1000);
        rig.tell(41, 0).stops("41", 2, 0);
        Due.about("STOP 6: op 40 (value 0): behind it IP is the next one's");
        rig.tell(8, 8).reg(0, 3).mem(1).stops("a stop ahead of it", 3, 0x1000);
        long steps = rig.m.register(19);
        rig.put(16, -3).tell(40, 0).step("40", 6);
        Due.equal("value", rig.m.value(), 0);
        rig.register("IP", 16, 0);
        rig.register("steps", 19, steps + 1);
        rig.flags("flags", Edge.ALL);
        rig.step("40 again: the program goes on", 6);
        rig.tell(39, 0).step("39 nothing", 0);
        rig.register("IP", 16, 6);
    }
}
