/** All promises: runs of calls, each answered as a second machine does that is made in another form. */
public final class ModelTest {
    private static final long TOP = Rig.STACK_END;
    private static final int[][] BEGINS = {
        {600, 100, 100, 300, 300, 600}, {4096, 16, 64, 2048, 2048, 4096}, {8192, 100, 4096, 4200, 4352, 8192},
        {0, 0, 0, 0, 0, 0}, {4097, 4097, 4097, 4097, 4097, 4097}, {262144, 8, 16, 32, 262000, 262144}
    };

    private final Samples samples;
    private final FlagMachine m = new FlagMachine();
    private final Model model = new Model();
    private int[] rows = BEGINS[3];
    private long looked;
    private int length;

    private ModelTest(long seed) {
        samples = new Samples(seed);
    }

    public static void main(String[] args) {
        for (int run = 0; run < 6000; run++) {
            new ModelTest(run).run(run);
        }
        Due.end();
    }

    private void run(int number) {
        rows = BEGINS[number % BEGINS.length];
        for (int edge : rows) {
            fill(edge - 8);
            fill(edge);
        }
        begin(rows);
        breakTo(samples.below(3) == 0 ? 0 : samples.below(2) == 0 ? 65536 : samples.below(600));
        for (int i = 0; i < 12; i++) {
            oneStep();
        }
        if (number % 50 == 0) {
            wholeMemory();
        }
    }

    private void fill(int place) {
        long v = samples.next();
        m.fill(place, v);
        model.fill(place, v);
    }

    private void begin(int[] r) {
        Due.equal("begin", bit(m.begin(r[0], r[1], r[2], r[3], r[4], r[5])), bit(model.begin(r[0], r[1], r[2], r[3], r[4], r[5])));
    }

    private void breakTo(int n) {
        m.op(42, 0, 0);
        model.op(42, 0, 0);
        set(0, 12);
        set(7, model.heap + n);
        length = 2;
        Due.equal("break", step("break"), 0);
        set(1, samples.next());
        set(11, samples.next());
    }

    private static int bit(boolean b) {
        return b ? 1 : 0;
    }

    private void set(int k, long v) {
        Due.equal("set", bit(m.set(k, v)), bit(model.set(k, v)));
    }

    private long edgeAddress() {
        long[] edges = {0x400000L + rows[1], 0x400000L + rows[2], 0x400000L + rows[3], 0x400000L + rows[4],
            0x400000L + rows[5], 0x400000L + rows[0], model.heap, model.breakAddress, TOP, TOP - 65536, TOP - 40, 0x400000L, 0};
        return edges[samples.below(edges.length)] + samples.below(26) - 16;
    }

    private long anyValue() {
        switch (samples.below(6)) {
            case 0: return edgeAddress();
            case 1: return samples.value(1);
            case 2: return samples.next();
            case 3: return samples.value(4);
            default: return samples.value(8);
        }
    }

    private void oneStep() {
        for (int i = 0; i < 3; i++) {
            set(samples.below(17), anyValue());
        }
        if (samples.below(3) != 0) {
            set(4, samples.below(2) == 0 ? TOP - 8 * samples.below(4) - samples.below(2) : edgeAddress());
        }
        length = samples.below(40) == 0 ? samples.below(18) - 1 : 1 + samples.below(15);
        int op = tellInstruction();
        tellRegistersFor(op);
        int taken = step("op " + op);
        if (samples.below(4) == 0 && taken != -1) {
            step("op " + op + " again");
        }
        if (taken == 1 && samples.below(2) == 0) {
            begin(rows);
        }
    }

    private static int pick(String list, int which) {
        int count = 0;
        for (int round = 0; round < 2; round++) {
            int at = 0;
            for (String range : list.split(",")) {
                String[] ends = range.split("-");
                int from = Integer.parseInt(ends[0]);
                int to = Integer.parseInt(ends[ends.length - 1]);
                for (int v = from; v <= to; v++) {
                    if (round == 1 && at == which % count) {
                        return v;
                    }
                    at++;
                }
            }
            count = at;
        }
        return -1;
    }

    private int tellInstruction() {
        String[] row = SoundList.ROWS[samples.below(SoundList.ROWS.length)].split("\\|");
        if (samples.below(8) == 0) {
            row = "42|0|n|n|n".split("\\|");
        }
        int op = pick(row[0], samples.below(1000));
        int size = pick(row[1], samples.below(1000));
        int condition = op >= 34 && op <= 36 ? samples.below(16) : 0;
        boolean odd = samples.below(25) == 0;
        if (odd) {
            op += samples.below(3) - 1;
            condition += samples.below(4) == 0 ? 1 : 0;
            size = samples.below(4) == 0 ? samples.below(10) - 1 : size;
        }
        m.op(op, size, condition);
        model.op(op, size, condition);
        tellMemory();
        for (int k = 0; k < 3; k++) {
            String kinds = row[2 + k];
            char kind = odd && samples.below(4) == 0 ? "nrmi".charAt(samples.below(4)) : kinds.charAt(samples.below(kinds.length()));
            operand(k, kind);
        }
        tellNumber(op, size);
        return op;
    }

    private void operand(int k, char kind) {
        int register = kind == 'r' ? samples.below(16) : kind == '1' ? 1 : 0;
        if (kind == 'r' && samples.below(3) == 0) {
            register = samples.below(3);
        }
        int number = kind == '1' ? 1 : "nrmi".indexOf(kind);
        Due.equal("operand", bit(m.operand(k, number, register)), bit(model.operand(k, number, register)));
    }

    private void tellMemory() {
        int base = samples.below(18) - 1;
        int index = samples.below(3) == 0 && base != 16 ? samples.below(16) : -1;
        int scale = index == -1 ? 1 : 1 << samples.below(4);
        int displacement = samples.below(2) == 0 ? samples.below(64) - 32 : (int) samples.next();
        long target = samples.below(8) == 0 ? samples.next() : edgeAddress();
        long scaled = index < 0 ? 0 : model.register(index) * scale;
        if (base == -1) {
            displacement = (int) (target - scaled);
        } else if (base == 16) {
            displacement = (int) (target - model.ip - length);
        } else if (base != index) {
            set(base, target - scaled - displacement);
        }
        if (samples.below(60) == 0) {
            index = 4;
        }
        m.memory(base, index, scale, displacement);
        model.memory(base, index, scale, displacement);
        looked = target;
    }

    private void tellNumber(int op, int size) {
        long[] some = {0, 1, -1, 127, 128, -128, -129, 255, 256, 65535, 65536, Integer.MAX_VALUE, Integer.MIN_VALUE, 31, 32, 33, 63, 64, 65};
        long v = 0;
        for (int i = 0; i < 40; i++) {
            v = samples.below(2) == 0 ? some[samples.below(some.length)] : samples.next() >> samples.below(64);
            if (SoundList.numberFits(op, size, v) || samples.below(100) == 0) {
                break;
            }
        }
        m.number(v);
        model.number(v);
    }

    private void tellRegistersFor(int op) {
        if (op == 43) {
            set(5, edgeAddress());
        }
        if (op >= 50) {
            set(6, samples.below(2) == 0 ? edgeAddress() : TOP - 60);
            set(7, samples.below(2) == 0 ? edgeAddress() : model.breakAddress - samples.below(9));
            set(1, samples.below(4) - 1);
        }
        if (op == 19 || op == 20) {
            set(2, samples.below(3) - 1);
        }
        if (op == 42) {
            long[] asked = {0, 0, 1, 1, 12, 12, 60, samples.next(), samples.below(70)};
            set(0, asked[samples.below(asked.length)]);
            set(2, samples.below(3) == 0 ? anyValue() : samples.below(20));
            set(6, edgeAddress());
            set(7, samples.below(4) == 0 ? anyValue() : model.heap + samples.below(3) * 32768 + samples.below(5) - 2);
            long word = samples.next();
            int n = samples.below(10);
            Due.equal("input", bit(m.input(word, n)), bit(model.input(word, n)));
        }
    }

    private int step(String what) {
        long rsp = model.register(4);
        long rsi = model.register(6);
        long rdi = model.register(7);
        int stop = model.step(length);
        String told = what + " of run with heap " + model.heap;
        Due.equal(told + ": step", m.step(length), stop);
        Due.equal(told + ": value", m.value(), model.value);
        for (int k = 0; k < 20; k++) {
            Due.equal(told + ": register " + k, m.register(k), model.register(k));
        }
        window(told, rsp);
        window(told, rsi);
        window(told, rdi);
        window(told, looked);
        int sent = model.output(-1);
        for (int i : new int[] {-2, -1, 0, sent - 1, sent, sent / 2}) {
            Due.equal(told + ": output " + i, m.output(i), model.output(i));
        }
        return stop;
    }

    private void window(String told, long at) {
        for (long a = at - 18; a < at + 18; a++) {
            Due.equal(told + ": byte at " + a, m.peek(a), model.peek(a));
        }
    }

    private void wholeMemory() {
        for (long a = 0x400000L - 20; a < model.heap + 65536 + 20; a++) {
            Due.equal("byte at " + a, m.peek(a), model.peek(a));
        }
        for (long a = TOP - 65536 - 20; a < TOP + 20; a++) {
            Due.equal("byte at " + a, m.peek(a), model.peek(a));
        }
        for (int i = 0; i < model.output.size(); i++) {
            Due.equal("output " + i, m.output(i), model.output(i));
        }
    }
}
