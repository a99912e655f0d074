/** 'Terms', what is sound, sentence by sentence: the last that is taken and the first that is refused. */
public final class EdgesOfSoundTest {
    public static void main(String[] args) {
        opsAndTheirOperands();
        opsThatAreNot();
        theRegisterOne();
        numbersOfTheirOwn();
        conditions();
        numbersOfSizeOne();
        ints();
        anyNumber();
        bases();
        indices();
        scales();
        fieldsOfNoOperand();
        registersOfOperands();
        Due.end();
    }

    /** Whether a new machine takes it; what it refuses must change nothing. */
    private static boolean takes(Rig rig, String what) {
        long[] before = new long[20];
        for (int k = 0; k < 20; k++) {
            before[k] = rig.m.register(k);
        }
        int stop = rig.m.step(4);
        for (int k = 0; k < 20 && stop == FlagMachine.NONE; k++) {
            Due.equal(what + " is refused: register " + k, rig.m.register(k), before[k]);
        }
        return stop != FlagMachine.NONE;
    }

    private static Rig rig() {
        Rig rig = new Rig();
        Due.yes("begin", rig.m.begin(4096, 0, 0, 0, 0, 4096));
        rig.m.memory(-1, -1, 1, 0x400100);
        rig.m.number(1);
        for (int k = 0; k < 16; k++) {
            rig.put(k, 2);
        }
        return rig.put(4, Rig.STACK_END - 4096);
    }

    private static void shape(int op, int size, String letters, boolean want) {
        String what = "op " + op + " size " + size + " operands " + letters;
        Due.equal(what, takes(rig().tell(op, size).kinds(letters), what) ? 1 : 0, want ? 1 : 0);
    }

    /** Every op with every size: all shapes of the first list are taken, none of the second one. */
    private static void row(String sentence, int[] ops, int[] sizes, String taken, String refused) {
        Due.about(sentence);
        for (int op : ops) {
            for (int size : new int[] {Integer.MIN_VALUE, -8, -4, -1, 0, 1, 2, 3, 4, 5, 7, 8, 9, 16, 64, Integer.MAX_VALUE}) {
                boolean sizeFits = false;
                for (int s : sizes) {
                    sizeFits |= s == size;
                }
                for (String letters : taken.split(" ")) {
                    shape(op, size, letters, sizeFits);
                }
                for (String letters : refused.split(" ")) {
                    shape(op, size, letters, false);
                }
            }
        }
    }

    private static void opsAndTheirOperands() {
        int[] all = {1, 4, 8};
        int[] wide = {4, 8};
        int[] none = {0};
        row("0 .. 8: register or memory, register; register, memory; register or memory, number", new int[] {0, 1, 2, 3, 4, 5, 6, 7, 8},
            all, "rr mr rm ri mi", "n r m i nr nm ni mm ir im ii rrr rri rrm mrr mri rmi rii");
        row("9: register or memory, register; register or memory, number", new int[] {9}, all, "rr mr ri mi", "n r m i nr rm mm ni ir im ii rrr rri mri");
        row("10, 48, 49: register or memory, register", new int[] {10, 48, 49}, all, "rr mr", "n r m i nr rm mm ri mi ir ii rrr rri mri");
        row("11 (4, 8): register, memory", new int[] {11}, wide, "rm", "n r m nm rr ri mr mm mi ir im rmr rmi rmm");
        row("12, 13 (4, 8): register, register or memory", new int[] {12, 13}, wide, "rr rm", "n r m nr ri mr mm mi ir im rrr rri rmi");
        row("14 (8): register, register or memory", new int[] {14}, new int[] {8}, "rr rm", "n r m nr ri mr mm mi ir im rrr rri rmi");
        row("15 .. 22 (1, 4, 8): register or memory", new int[] {15, 16, 17, 18, 19, 20, 21, 22}, all, "r m", "n i rr rm ri mr mi nr nm ni rnr rni nnr");
        row("23 (4, 8): register, register or memory, perhaps a number", new int[] {23}, wide, "rr rm rri rmi", "n r m i ri mr mm mi rrr rrm rmr rmm rni rii nri mri");
        row("24 .. 28 (1, 4, 8): register or memory, the register 1 or a number", new int[] {24, 25, 26, 27, 28},
            all, "r1 m1 ri mi", "n r m i rr mr rm mm n1 ni i1 ii r1r r1i rii m1i");
        row("29 (8): register, memory or number", new int[] {29}, new int[] {8}, "r m i", "n rr ri mr mi ir ii nr nm ni rnr inr nni");
        row("30 (8): register or memory", new int[] {30}, new int[] {8}, "r m", "n i rr rm ri mr mi nr nm rnr rni");
        row("31, 32 (0): number, register or memory", new int[] {31, 32}, none, "i r m", "n ir rr mr ii ri mi nr nm ni inr rnr nni");
        row("33 (0): nothing, or a number", new int[] {33}, none, "n i", "r m ir im ii rr ri nr nm inr ini nnr nni");
        row("34 (0): number", new int[] {34}, none, "i", "n r m ir im ii nr ni ini nni");
        row("35 (1): register or memory", new int[] {35}, new int[] {1}, "r m", "n i rr rm ri mr mi nr rnr rni");
        row("36 (4, 8): register, register or memory", new int[] {36}, wide, "rr rm", "n r m nr nm ri mr mm mi ir im rrr rri rmi");
        row("37, 38 (4, 8): nothing", new int[] {37, 38}, wide, "n", "r m i rr nr nm ni nnr nnm nni");
        row("39, 40, 41, 43 (0): nothing", new int[] {39, 40, 41, 43}, none, "n", "r m i rr nr nm ni nnr nnm nni");
        row("42 (0): nothing", new int[] {42}, none, "n", "r m i rr nr nm ni nnr nnm nni");
        row("44, 45 (4, 8): register, register or memory", new int[] {44, 45}, wide, "rr rm", "n r m nr nm ri mr mm mi ir im rrr rri rmi");
        row("46 (4, 8): register", new int[] {46}, wide, "r", "n m i rr rm ri nr rnr rni");
        row("47 (4, 8): register or memory, register or a number", new int[] {47}, wide, "rr mr ri mi", "n r m i rm mm nr ni ir ii rrr rri rii");
        row("50 .. 53 (1, 4, 8): nothing", new int[] {50, 51, 52, 53}, all, "n", "r m i rr nr nm ni nnr nnm nni");
    }

    private static void opsThatAreNot() {
        String every = "n r m i rr rm ri mr mi r1 rri rmi";
        row("What is sound: all that is not, is refused: ops below 0 and above 53",
            new int[] {-1, -2, 54, 55, 64, 256, Integer.MAX_VALUE, Integer.MIN_VALUE}, new int[0], every, every);
    }

    private static void theRegisterOne() {
        Due.about("24 .. 28: the register 1");
        for (int op = 24; op <= 28; op++) {
            for (int register = 0; register < 16; register++) {
                String what = "op " + op + " by register " + register;
                Rig rig = rig().tell(op, 8).reg(0, 3).reg(1, register);
                Due.equal(what, takes(rig, what) ? 1 : 0, register == 1 ? 1 : 0);
            }
        }
    }

    /** The number and its neighbours outside, for a register and, where it may be, for memory. */
    private static void range(int op, int size, String shapes, long low, long high) {
        for (String letters : shapes.split(" ")) {
            number(op, size, letters, low, true);
            number(op, size, letters, high, true);
            number(op, size, letters, 0, true);
            number(op, size, letters, low - 1, false);
            number(op, size, letters, high + 1, false);
            number(op, size, letters, low - (1L << 32), false);
            number(op, size, letters, high + (1L << 32), false);
            number(op, size, letters, Long.MIN_VALUE, false);
            number(op, size, letters, Long.MAX_VALUE, false);
        }
    }

    private static void number(int op, int size, String letters, long v, boolean want) {
        String what = "op " + op + " size " + size + " operands " + letters + " number " + v;
        Rig rig = rig().tell(op, size).kinds(letters);
        rig.m.number(v);
        Due.equal(what, takes(rig, what) ? 1 : 0, want ? 1 : 0);
    }

    private static void numbersOfTheirOwn() {
        Due.about("24 .. 28: a number 0 .. 255");
        for (int op = 24; op <= 28; op++) {
            range(op, 1, "ri mi", 0, 255);
            range(op, 4, "ri mi", 0, 255);
            range(op, 8, "ri mi", 0, 255);
        }
        Due.about("33: a number 0 .. 65535");
        range(33, 0, "i", 0, 65535);
        Due.about("47: a number 0 .. 255");
        range(47, 4, "ri mi", 0, 255);
        range(47, 8, "ri mi", 0, 255);
    }

    private static void condition(int op, int size, String letters, int condition, boolean want) {
        String what = "op " + op + " size " + size + " condition " + condition;
        Due.equal(what, takes(rig().when(op, size, condition).kinds(letters), what) ? 1 : 0, want ? 1 : 0);
    }

    private static void conditions() {
        Due.about("a condition 0 .. 15 for 34, 35, 36");
        for (int c : new int[] {Integer.MIN_VALUE, -16, -2, -1, 0, 1, 2, 8, 14, 15, 16, 17, 32, 256, Integer.MAX_VALUE}) {
            boolean fits = c >= 0 && c <= 15;
            condition(34, 0, "i", c, fits);
            condition(35, 1, "r", c, fits);
            condition(35, 1, "m", c, fits);
            condition(36, 4, "rr", c, fits);
            condition(36, 8, "rm", c, fits);
        }
        Due.about("and 0 else");
        String[] rows = {"0 8 rr", "9 1 ri", "10 4 mr", "11 8 rm", "12 4 rr", "14 8 rr", "15 1 r", "22 8 m", "23 4 rr", "24 8 ri", "28 1 r1",
            "29 8 i", "30 8 r", "31 0 i", "32 0 r", "33 0 n", "37 4 n", "38 8 n", "39 0 n", "40 0 n", "41 0 n", "42 0 n", "43 0 n",
            "44 4 rr", "45 8 rm", "46 8 r", "47 4 ri", "48 8 rr", "49 1 mr", "50 1 n", "53 8 n"};
        for (String row : rows) {
            String[] parts = row.split(" ");
            for (int c : new int[] {Integer.MIN_VALUE, -1, 0, 1, 15, 16, Integer.MAX_VALUE}) {
                condition(Integer.parseInt(parts[0]), Integer.parseInt(parts[1]), parts[2], c, c == 0);
            }
        }
    }

    private static void numbersOfSizeOne() {
        Due.about("other numbers are -128 .. 127 with size 1");
        for (int op = 0; op <= 9; op++) {
            range(op, 1, "ri mi", -128, 127);
        }
    }

    private static void ints() {
        Due.about("else ints");
        for (int op = 0; op <= 9; op++) {
            range(op, 4, "ri mi", Integer.MIN_VALUE, Integer.MAX_VALUE);
            if (op != 8) {
                range(op, 8, "ri mi", Integer.MIN_VALUE, Integer.MAX_VALUE);
            }
        }
        range(23, 4, "rri rmi", Integer.MIN_VALUE, Integer.MAX_VALUE);
        range(23, 8, "rri rmi", Integer.MIN_VALUE, Integer.MAX_VALUE);
        range(29, 8, "i", Integer.MIN_VALUE, Integer.MAX_VALUE);
        for (int op : new int[] {31, 32, 34}) {
            range(op, 0, "i", Integer.MIN_VALUE, Integer.MAX_VALUE);
        }
    }

    private static void anyNumber() {
        Due.about("any for op 8 with size 8");
        for (long v : new long[] {Long.MIN_VALUE, Integer.MIN_VALUE - 1L, 0, Integer.MAX_VALUE + 1L, 1L << 32, Long.MAX_VALUE}) {
            number(8, 8, "ri", v, true);
            number(8, 8, "mi", v, true);
        }
    }

    /** A memory operand as x and as y, read, written, and only asked for its address. */
    private static void fields(int base, int index, int scale, boolean want) {
        String[] rows = {"0 4 mr", "8 8 rm", "11 8 rm", "15 1 m", "23 8 rm", "26 4 mi", "29 8 m", "30 8 m", "31 0 m", "35 1 m", "47 8 mr"};
        for (String row : rows) {
            String[] parts = row.split(" ");
            int op = Integer.parseInt(parts[0]);
            String what = "op " + op + " base " + base + " index " + index + " scale " + scale;
            Rig rig = rig().when(op, Integer.parseInt(parts[1]), 0).kinds(parts[2]);
            rig.m.memory(base, index, scale, 0x400100);
            Due.equal(what, takes(rig, what) ? 1 : 0, want ? 1 : 0);
        }
    }

    private static void bases() {
        Due.about("of a memory operand the base is -1 .. 16");
        for (int base : new int[] {Integer.MIN_VALUE, -3, -2, -1, 0, 4, 15, 16, 17, 18, 32, Integer.MAX_VALUE}) {
            fields(base, -1, 1, base >= -1 && base <= 16);
        }
    }

    private static void indices() {
        Due.about("the index -1 .. 15");
        for (int index : new int[] {Integer.MIN_VALUE, -3, -2, -1, 0, 15, 16, 17, 20, 32, Integer.MAX_VALUE}) {
            fields(-1, index, 1, index >= -1 && index <= 15);
        }
        Due.about("not 4");
        for (int base : new int[] {-1, 0, 4, 15}) {
            for (int index = 3; index <= 5; index++) {
                fields(base, index, 1, index != 4);
            }
        }
        Due.about("and -1 with base 16");
        for (int index : new int[] {-2, -1, 0, 1, 15, 16}) {
            fields(16, index, 1, index == -1);
        }
        fields(15, 0, 1, true);
    }

    private static void scales() {
        Due.about("the scale 1, 2, 4 or 8");
        for (int scale : new int[] {Integer.MIN_VALUE, -8, -1, 0, 1, 2, 3, 4, 5, 6, 7, 8, 9, 16, 64, Integer.MAX_VALUE}) {
            fields(0, 1, scale, scale == 1 || scale == 2 || scale == 4 || scale == 8);
        }
        Due.about("1 without an index");
        for (int base : new int[] {-1, 3, 16}) {
            for (int scale : new int[] {-1, 0, 1, 2, 4, 8, 16}) {
                fields(base, -1, scale, scale == 1);
            }
        }
    }

    private static void fieldsOfNoOperand() {
        Due.about("of a memory operand: without one its fields may be any, as may the number without a number");
        for (String row : new String[] {"0 1 rr", "26 4 r1", "33 0 n", "39 0 n", "47 8 rr", "48 1 rr", "50 1 n"}) {
            String[] parts = row.split(" ");
            Rig rig = rig().tell(Integer.parseInt(parts[0]), Integer.parseInt(parts[1])).kinds(parts[2]);
            rig.m.memory(99, 4, 3, Integer.MIN_VALUE);
            rig.m.number(Long.MIN_VALUE);
            Due.yes(row, takes(rig, row));
        }
        Rig memory = rig().tell(8, 1).kinds("rm");
        memory.m.number(Long.MAX_VALUE);
        Due.yes("a number that is not used", takes(memory, "memory"));
        Rig number = rig().tell(8, 1).kinds("ri");
        number.m.memory(0, 0, 0, 0);
        Due.yes("memory that is not used", takes(number, "number"));
    }

    private static void registersOfOperands() {
        Due.about("a REGISTER (1) with its number");
        for (int x = 0; x < 16; x++) {
            for (int y = 0; y < 16; y++) {
                Rig rig = rig().put(x, 5).put(y, 9);
                rig.tell(8, 8).reg(0, x).reg(1, y).step("mov", 0);
                rig.register("register " + x + " from " + y, x, 9);
                rig.register("register " + y, y, 9);
            }
        }
    }
}
