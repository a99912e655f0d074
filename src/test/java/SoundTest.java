/** Promises 4 to 8: op, operand, memory, number, and which instructions a step takes. */
public final class SoundTest {
    private static final int[] SIZES = {-1, 0, 1, 2, 3, 4, 5, 7, 8, 9, 16, Integer.MAX_VALUE, Integer.MIN_VALUE};

    public static void main(String[] args) {
        everyShape();
        conditions();
        numbers();
        memoryFields();
        fieldsThatDoNotMatter();
        lengths();
        operandCalls();
        opClearsOperands();
        refusedStepChangesNothing();
        Due.end();
    }

    private static void everyShape() {
        FlagMachine m = new FlagMachine();
        Due.yes("begin", m.begin(4096, 0, 0, 0, 0, 4096));
        m.memory(-1, -1, 1, 0x400100);
        m.number(1);
        for (int op = -2; op <= 56; op++) {
            for (int size : SIZES) {
                for (int shape = 0; shape < 64 * 2; shape++) {
                    int register = shape / 64 == 0 ? 1 : 3;
                    shape(m, op, size, new int[] {shape & 3, shape >> 2 & 3, shape >> 4 & 3}, register);
                }
            }
        }
        shape(m, Integer.MAX_VALUE, 8, new int[] {1, 1, 0}, 1);
        shape(m, Integer.MIN_VALUE, 8, new int[] {1, 1, 0}, 1);
    }

    private static void shape(FlagMachine m, int op, int size, int[] kinds, int register) {
        int[] registers = new int[3];
        m.set(4, 0x7ffff000L - 4096);
        m.op(op, size, 0);
        for (int k = 0; k < 3; k++) {
            registers[k] = kinds[k] == 1 ? register : 0;
            Due.yes("operand", m.operand(k, kinds[k], registers[k]));
        }
        boolean taken = m.step(4) != FlagMachine.NONE;
        String what = "op " + op + " size " + size + " kinds " + kinds[0] + kinds[1] + kinds[2] + " register " + register;
        Due.equal(what, taken ? 1 : 0, SoundList.has(op, size, kinds, registers) ? 1 : 0);
    }

    private static void conditions() {
        int[] conditions = {-1, 0, 1, 7, 15, 16, Integer.MAX_VALUE, Integer.MIN_VALUE};
        for (int op = 0; op <= 53; op++) {
            for (int c : conditions) {
                FlagMachine m = new FlagMachine();
                boolean found = false;
                boolean taken = false;
                for (int size : new int[] {0, 1, 4, 8}) {
                    for (int shape = 0; shape < 16; shape++) {
                        int[] kinds = {shape & 3, shape >> 2, 0};
                        int[] registers = {kinds[0] == 1 ? 1 : 0, kinds[1] == 1 ? 1 : 0, 0};
                        if (kinds[0] != 2 && kinds[1] != 2 && SoundList.has(op, size, kinds, registers)) {
                            found = true;
                            m.set(4, 0x7ffff000L - 4096);
                            m.op(op, size, c);
                            m.operand(0, kinds[0], registers[0]);
                            m.operand(1, kinds[1], registers[1]);
                            taken |= m.step(4) != FlagMachine.NONE;
                        }
                    }
                }
                boolean fits = c == 0 || (op >= 34 && op <= 36 && c >= 0 && c <= 15);
                Due.equal("op " + op + " condition " + c, taken ? 1 : 0, found && fits ? 1 : 0);
            }
        }
    }

    private static void number(int op, int size, int k, long v, boolean fits) {
        Rig rig = new Rig();
        rig.put(4, 0x7ffff000L - 4096).tell(op, size);
        for (int i = 0; i < k; i++) {
            rig.reg(i, 1);
        }
        rig.num(k, v);
        Due.equal("op " + op + " size " + size + " number " + v, rig.m.step(5) != -1 ? 1 : 0, fits ? 1 : 0);
    }

    private static void range(int op, int size, int k, long low, long high) {
        number(op, size, k, low, true);
        number(op, size, k, high, true);
        number(op, size, k, low - 1, false);
        number(op, size, k, high + 1, false);
        number(op, size, k, Long.MIN_VALUE, false);
        number(op, size, k, Long.MAX_VALUE, false);
    }

    private static void numbers() {
        for (int op = 0; op <= 9; op++) {
            range(op, 1, 1, -128, 127);
            range(op, 4, 1, Integer.MIN_VALUE, Integer.MAX_VALUE);
            if (op != 8) {
                range(op, 8, 1, Integer.MIN_VALUE, Integer.MAX_VALUE);
            }
        }
        for (long v : new long[] {Long.MIN_VALUE, Long.MAX_VALUE, 1L << 31, -1}) {
            number(8, 8, 1, v, true);
        }
        for (int op = 24; op <= 28; op++) {
            range(op, 1, 1, 0, 255);
            range(op, 4, 1, 0, 255);
            range(op, 8, 1, 0, 255);
        }
        range(47, 4, 1, 0, 255);
        range(47, 8, 1, 0, 255);
        range(33, 0, 0, 0, 65535);
        range(23, 4, 2, Integer.MIN_VALUE, Integer.MAX_VALUE);
        range(23, 8, 2, Integer.MIN_VALUE, Integer.MAX_VALUE);
        range(29, 8, 0, Integer.MIN_VALUE, Integer.MAX_VALUE);
        range(31, 0, 0, Integer.MIN_VALUE, Integer.MAX_VALUE);
        range(32, 0, 0, Integer.MIN_VALUE, Integer.MAX_VALUE);
        range(34, 0, 0, Integer.MIN_VALUE, Integer.MAX_VALUE);
    }

    private static void memoryFields() {
        int[] far = {Integer.MIN_VALUE, Integer.MAX_VALUE};
        FlagMachine m = new FlagMachine();
        for (int base = -3; base <= 18; base++) {
            for (int index = -3; index <= 18; index++) {
                for (int scale = -1; scale <= 17; scale++) {
                    memoryField(m, base, index, scale);
                }
            }
        }
        for (int v : far) {
            memoryField(m, v, -1, 1);
            memoryField(m, -1, v, 1);
            memoryField(m, -1, 1, v);
        }
    }

    private static void memoryField(FlagMachine m, int base, int index, int scale) {
        m.memory(base, index, scale, 0);
        m.op(11, 8, 0);
        m.operand(0, 1, 1);
        m.operand(1, 2, 0);
        boolean taken = m.step(4) != FlagMachine.NONE;
        Due.equal("memory " + base + " " + index + " " + scale, taken ? 1 : 0, SoundList.memoryFits(base, index, scale) ? 1 : 0);
    }

    private static void fieldsThatDoNotMatter() {
        Rig rig = new Rig();
        rig.m.memory(99, 99, 99, 99);
        rig.m.number(Long.MAX_VALUE);
        rig.put(1, 5).put(2, 6).tell(0, 1).reg(0, 1).reg(1, 2).step("no memory, no number", 0);
        rig.register("sum", 1, 11);
        rig.tell(39, 0).step("nothing", 0);
        rig.m.memory(-1, -1, 1, 0);
        rig.tell(11, 4).reg(0, 1).mem(1).step("lea", 0);
    }

    private static void lengths() {
        int[] wrong = {0, -1, 16, Integer.MAX_VALUE, Integer.MIN_VALUE};
        FlagMachine m = new FlagMachine();
        for (int length = 1; length <= 15; length++) {
            long ip = m.register(16);
            Due.equal("length " + length, m.step(length), 0);
            Due.equal("IP", m.register(16), ip + length);
        }
        for (int length : wrong) {
            long ip = m.register(16);
            Due.equal("length " + length, m.step(length), -1);
            Due.equal("IP", m.register(16), ip);
        }
    }

    private static void operandCalls() {
        FlagMachine m = new FlagMachine();
        int[] some = {Integer.MIN_VALUE, -2, -1, 0, 1, 2, 3, 4, 5, 15, 16, 17, Integer.MAX_VALUE};
        for (int k : some) {
            for (int kind : some) {
                for (int register : some) {
                    boolean fits = k >= 0 && k <= 2 && kind >= 0 && kind <= 3
                        && (register == 0 || (kind == 1 && register >= 0 && register <= 15));
                    Due.equal("operand(" + k + ", " + kind + ", " + register + ")", m.operand(k, kind, register) ? 1 : 0, fits ? 1 : 0);
                }
            }
        }
        // What is refused leaves the operands as they are.
        Rig rig = new Rig();
        rig.put(7, 40).put(8, 2).tell(0, 8).reg(0, 7).reg(1, 8);
        Due.no("kind 4", rig.m.operand(0, 4, 0));
        Due.no("register 16", rig.m.operand(0, 1, 16));
        Due.no("memory with a register", rig.m.operand(1, 2, 8));
        Due.no("operand 3", rig.m.operand(3, 1, 0));
        rig.step("add", 0);
        rig.register("sum", 7, 42);
    }

    private static void opClearsOperands() {
        Rig rig = new Rig();
        rig.tell(23, 8).reg(0, 1).reg(1, 2).num(2, 5).step("imul", 0);
        rig.tell(39, 0).step("operands are gone", 0);
        rig.tell(0, 8).reg(0, 1);
        rig.stops("y is gone", -1, 0);
        rig.reg(1, 2).step("y is told", 0);
        rig.tell(29, 8).num(0, 77).step("push", 0);
        rig.tell(29, 8).num(0, 78);
        rig.m.number(79);
        rig.step("number told last", 0);
        Due.equal("pushed", rig.word(rig.m.register(4), 8), 79);
        rig.m.op(8, 8, 0);
        rig.reg(0, 3).m.operand(1, 3, 0);
        rig.step("the number stays over op", 0);
        rig.register("number", 3, 79);
        rig.step("an instruction stays in hand", 0);
    }

    private static void refusedStepChangesNothing() {
        Rig rig = new Rig();
        rig.tell(8, 8).reg(0, 1).at(1, 123).step("not readable", 3);
        Due.equal("value", rig.m.value(), 123);
        rig.tell(0, 2).reg(0, 1).reg(1, 2);
        rig.stops("size 2", -1, 123);
        rig.tell(54, 0);
        rig.stops("op 54", -1, 123);
        rig.tell(39, 0);
        long[] before = rig.picture();
        Due.equal("length 16", rig.m.step(16), -1);
        Due.equal("value stays", rig.m.value(), 123);
        rig.same("length 16", before);
        rig.step("sound", 0);
        Due.equal("value of a step without a stop", rig.m.value(), 0);
    }
}
