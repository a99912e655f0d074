/** A machine with short ways to tell it instructions, and a picture of all that its face shows. */
public final class Rig {
    public static final int NOTHING = 0;
    public static final int REGISTER = 1;
    public static final int MEMORY = 2;
    public static final int NUMBER = 3;

    public static final int C = 1;
    public static final int P = 4;
    public static final int Z = 64;
    public static final int S = 128;
    public static final int O = 2048;

    public static final long IMAGE = 0x400000L;
    public static final long STACK_END = 0x7ffff000L;
    public static final long STACK = STACK_END - 65536;

    public final FlagMachine m = new FlagMachine();

    public Rig tell(int op, int size) {
        m.op(op, size, 0);
        return this;
    }

    public Rig when(int op, int size, int condition) {
        m.op(op, size, condition);
        return this;
    }

    public Rig reg(int k, int register) {
        Due.yes("operand " + k + " register " + register, m.operand(k, REGISTER, register));
        return this;
    }

    public Rig mem(int k) {
        Due.yes("operand " + k + " memory", m.operand(k, MEMORY, 0));
        return this;
    }

    public Rig at(int k, long address) {
        m.memory(-1, -1, 1, (int) address);
        return mem(k);
    }

    public Rig num(int k, long v) {
        Due.yes("operand " + k + " number", m.operand(k, NUMBER, 0));
        m.number(v);
        return this;
    }

    /** Operands by letters: n none, r register 3, 5 or 6, 1 register 1, m memory, i number. */
    public Rig kinds(String letters) {
        int[] usual = {3, 5, 6};
        for (int k = 0; k < letters.length(); k++) {
            switch (letters.charAt(k)) {
                case 'r':
                    reg(k, usual[k]);
                    break;
                case '1':
                    reg(k, 1);
                    break;
                case 'm':
                    mem(k);
                    break;
                case 'i':
                    Due.yes("operand " + k + " number", m.operand(k, NUMBER, 0));
                    break;
                default:
                    Due.yes("operand " + k + " none", m.operand(k, NOTHING, 0));
                    break;
            }
        }
        return this;
    }

    public Rig put(int register, long v) {
        Due.yes("set " + register, m.set(register, v));
        return this;
    }

    public void poke(long address, int size, long v) {
        for (int i = 0; i < size; i++) {
            Due.yes("poke " + (address + i), m.poke(address + i, (int) (v >>> (8 * i))));
        }
    }

    public long word(long address, int size) {
        long v = 0;
        for (int i = size - 1; i >= 0; i--) {
            v = v << 8 | m.peek(address + i);
        }
        return v;
    }

    public void step(String what, int want) {
        Due.equal(what + ": step", m.step(3), want);
    }

    public void register(String what, int k, long want) {
        Due.equal(what + ": register " + k, m.register(k), want);
    }

    public void flags(String what, long want) {
        Due.equal(what + ": flags", m.register(17), 2 | want);
    }

    /** Flags become those of a sum of two bytes, all else but steps stays; answers them. */
    public long flagsOfSum(int a, int b) {
        long r14 = m.register(14);
        long r15 = m.register(15);
        long ip = m.register(16);
        put(14, a).put(15, b).tell(0, 1).reg(0, 14).reg(1, 15).step("flags", 0);
        put(14, r14).put(15, r15).put(16, ip);
        return m.register(17);
    }

    /** Flags become these, one of all 32 sets, also those that no sum has; all else but steps stays. */
    public void setFlags(long want) {
        long r14 = m.register(14);
        long r15 = m.register(15);
        long ip = m.register(16);
        int[][] sums = {{0, 1}, {0x80, 0}, {0, 3}, {0x80, 1}, {0x80, 0x81}, {0x7f, 1}, {0x80, 0x80}, {0x7f, 2}};
        int[] sum = sums[((want & S) != 0 ? 1 : 0) + ((want & P) != 0 ? 2 : 0) + ((want & O) != 0 ? 4 : 0)];
        flagsOfSum(sum[0], sum[1]);
        put(14, 0).put(15, (want & Z) != 0 ? 0 : 1).tell(44, 8).reg(0, 14).reg(1, 15).step("Z", 0);
        put(14, want & C).tell(47, 8).reg(0, 14).num(1, 0).step("C", 0);
        put(14, r14).put(15, r15).put(16, ip);
        Due.equal("flags as wanted", m.register(17), 2 | want);
    }

    /** The flags' bits of a set's number 0 .. 31. */
    public static long flagsOf(int set) {
        return (set & 1) + (set & 2) * 2 + (set & 12) * 16 + (set & 16) * 128;
    }

    /** Different sets of flags, one for each of 0 .. 4: none, most of them, S with O, C with P, S alone. */
    public long someFlags(int which) {
        int[][] sums = {{0, 1}, {0x80, 0x80}, {0x7f, 4}, {0xff, 4}, {0x80, 3}};
        return flagsOfSum(sums[which][0], sums[which][1]);
    }

    /** A syscall that does not end the program, and what rax is behind it. */
    public void syscall(String what, long rax, long rdi, long rsi, long rdx, long want) {
        put(0, rax).put(7, rdi).put(6, rsi).put(2, rdx).tell(42, 0).step(what, 0);
        register(what, 0, want);
        Due.equal(what + ": value", m.value(), 0);
    }

    /** All is as behind begin(), with the HEAP at an address. */
    public void fresh(String what, long heap) {
        for (int k = 0; k < 16; k++) {
            register(what, k, k == 4 ? STACK_END : 0);
        }
        register(what + ": IP", 16, IMAGE);
        flags(what, 0);
        register(what + ": BREAK", 18, heap);
        register(what + ": steps", 19, 0);
        Due.equal(what + ": value", m.value(), 0);
        Due.equal(what + ": OUTPUT", m.output(-1), 0);
        Due.equal(what + ": OUTPUT", m.output(0), -1);
    }

    /** All that the face shows but the value of the latest stop, one number for each part. */
    public long[] picture() {
        long[] all = new long[24];
        for (int k = 0; k < 20; k++) {
            all[k] = m.register(k);
        }
        all[20] = m.output(-1);
        all[21] = sumOf(IMAGE, IMAGE + 20480);
        all[22] = sumOf(STACK_END - 512, STACK_END + 8);
        all[23] = sumOf(STACK - 8, STACK + 64);
        return all;
    }

    private long sumOf(long from, long to) {
        long sum = 0;
        for (long a = from; a < to; a++) {
            sum = sum * 31 + m.peek(a);
        }
        return sum;
    }

    public void same(String what, long[] before) {
        long[] now = picture();
        for (int i = 0; i < now.length; i++) {
            Due.equal(what + ": part " + i + " as before", now[i], before[i]);
        }
    }

    /** A step that must stop with 2, 3 or 5, or be refused, and leave all as it was. */
    public void stops(String what, int stop, long value) {
        long[] before = picture();
        Due.equal(what + ": step", m.step(3), stop);
        Due.equal(what + ": value", m.value(), value);
        same(what, before);
    }
}
