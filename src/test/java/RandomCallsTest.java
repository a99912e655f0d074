/** All promises: any calls in any order throw nothing, and what a stop or a refusal must leave alone stays. */
public final class RandomCallsTest {
    private static final int[] ODD = {Integer.MIN_VALUE, Integer.MAX_VALUE, -129, -2, -1, 0, 1, 2, 3, 4, 5, 7, 8, 9, 15, 16, 17, 42, 60, 128, 255, 4096, 65535, 65536, 262144, 262145};

    public static void main(String[] args) {
        Samples samples = new Samples(2026);
        for (int run = 0; run < 400; run++) {
            Rig rig = new Rig();
            for (int i = 0; i < 512; i++) {
                call(rig, samples);
            }
        }
        sameCallsSameAnswers();
        Due.end();
    }

    private static int odd(Samples samples) {
        return samples.below(4) == 0 ? (int) samples.next() : ODD[samples.below(ODD.length)];
    }

    private static long address(Samples samples) {
        long[] near = {0x400000L, 0x401000L, 0x400800L, 0x440000L, 0x450000L, Rig.STACK, Rig.STACK_END, 0, Long.MIN_VALUE};
        return near[samples.below(near.length)] + samples.below(64) - 32;
    }

    private static void call(Rig rig, Samples samples) {
        FlagMachine m = rig.m;
        switch (samples.below(20)) {
            case 0:
                begin(rig, samples);
                break;
            case 1:
                m.fill(odd(samples), samples.next());
                break;
            case 2:
                m.op(odd(samples), odd(samples), odd(samples));
                break;
            case 3: case 4: case 5: case 6:
                soundOp(m, samples);
                break;
            case 7:
                m.operand(odd(samples), odd(samples), odd(samples));
                break;
            case 8:
                m.memory(odd(samples), odd(samples), odd(samples), odd(samples));
                break;
            case 9:
                m.number(samples.below(2) == 0 ? odd(samples) : samples.next());
                break;
            case 10:
                m.set(odd(samples), address(samples));
                break;
            case 11:
                m.set(samples.below(8), samples.below(2) == 0 ? odd(samples) : address(samples));
                break;
            case 12:
                m.input(samples.next(), odd(samples));
                break;
            case 13:
                Due.yes("output", m.output(odd(samples)) >= -1);
                break;
            case 14:
                Due.yes("peek", m.peek(address(samples)) >= -1);
                break;
            case 15:
                poke(m, samples);
                break;
            default:
                step(rig, samples);
                break;
        }
    }

    private static void begin(Rig rig, Samples samples) {
        if (samples.below(4) == 0) {
            rig.m.begin(odd(samples), odd(samples), odd(samples), odd(samples), odd(samples), odd(samples));
        } else {
            rig.m.begin(4096, 16, 64, 2048, 2048, 4096);
        }
    }

    private static void soundOp(FlagMachine m, Samples samples) {
        int[] sizes = {0, 1, 4, 8};
        int op = samples.below(54);
        m.op(op, sizes[samples.below(4)], op >= 34 && op <= 36 ? samples.below(16) : 0);
        for (int k = 0; k < 2; k++) {
            int kind = samples.below(4);
            m.operand(k, kind, kind == 1 ? samples.below(16) : 0);
        }
        m.memory(samples.below(18) - 1, -1, 1, samples.below(3) == 0 ? 0x400800 : 0);
        m.number(samples.below(256) - 100);
    }

    private static void poke(FlagMachine m, Samples samples) {
        long a = address(samples);
        int v = odd(samples);
        int before = m.peek(a);
        boolean done = m.poke(a, v);
        Due.equal("peek behind poke", m.peek(a), done ? v & 255 : before);
    }

    private static void step(Rig rig, Samples samples) {
        int length = samples.below(8) == 0 ? odd(samples) : 1 + samples.below(15);
        boolean look = samples.below(16) == 0;
        long[] before = look ? rig.picture() : null;
        long ip = rig.m.register(16);
        long steps = rig.m.register(19);
        long value = rig.m.value();
        int stop = rig.m.step(length);
        Due.yes("a stop there is: " + stop, stop >= -1 && stop <= 6 && stop != 4);
        boolean done = stop == 0 || stop == 1 || stop == 6;
        Due.equal("steps", rig.m.register(19), steps + (done ? 1 : 0));
        if (!done) {
            Due.equal("IP", rig.m.register(16), ip);
            if (look) {
                rig.same("stop " + stop, before);
            }
        }
        if (stop == -1) {
            Due.equal("value", rig.m.value(), value);
        } else if (stop != 1 && stop != 3) {
            Due.equal("value", rig.m.value(), 0);
        }
    }

    private static void sameCallsSameAnswers() {
        Rig a = new Rig();
        Rig b = new Rig();
        Samples forA = new Samples(7);
        Samples forB = new Samples(7);
        for (int i = 0; i < 512; i++) {
            call(a, forA);
            call(b, forB);
        }
        a.same("the same calls", b.picture());
    }
}
