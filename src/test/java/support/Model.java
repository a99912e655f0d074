import java.math.BigInteger;
import java.util.ArrayDeque;
import java.util.ArrayList;
import java.util.HashMap;
import java.util.List;
import java.util.Map;

/**
 * The document once more, in another form than the class: a step goes ahead as it is told, byte by
 * byte and with numbers of any length, and what it did is taken back where it meets a stop.
 */
public final class Model {
    private static final class Stop extends Exception {
        private static final long serialVersionUID = 1;
        final int kind;
        final long value;

        Stop(int kind, long value) {
            super(null, null, false, false);
            this.kind = kind;
            this.value = value;
        }
    }

    public long[] registers = new long[16];
    public long ip;
    public boolean c;
    public boolean p;
    public boolean z;
    public boolean s;
    public boolean o;
    public long heap;
    public long breakAddress;
    public long steps;
    public long value;
    public final List<Integer> output = new ArrayList<>();
    private final Map<Long, Integer> bytes = new HashMap<>();
    private final Map<Integer, Integer> filled = new HashMap<>();
    private final ArrayDeque<Integer> input = new ArrayDeque<>();
    private int[] rows = new int[5];
    private boolean ended;

    private int op = 39;
    private int size;
    private int condition;
    private int[] kinds = new int[3];
    private int[] numbers = new int[3];
    private int base;
    private int index;
    private int scale;
    private int displacement;
    private long number;

    private long next;
    private Map<Long, Integer> undo;

    public Model() {
        begin(0, 0, 0, 0, 0, 0);
    }

    public boolean begin(int image, int text, int rodata, int rodataEnd, int data, int dataEnd) {
        int[] all = {0, text, rodata, rodataEnd, data, dataEnd, image, 262144};
        for (int i = 1; i < all.length; i++) {
            if (all[i] < all[i - 1]) {
                return false;
            }
        }
        rows = new int[] {text, rodata, rodataEnd, data, dataEnd};
        bytes.clear();
        for (Map.Entry<Integer, Integer> e : filled.entrySet()) {
            if (e.getKey() < image) {
                bytes.put(0x400000L + e.getKey(), e.getValue());
            }
        }
        heap = 0x400000L;
        while (heap < 0x400000L + image) {
            heap += 4096;
        }
        breakAddress = heap;
        registers = new long[16];
        registers[4] = 0x7ffff000L;
        c = p = z = s = o = false;
        ip = 0x400000L;
        input.clear();
        output.clear();
        steps = 0;
        value = 0;
        ended = false;
        return true;
    }

    public void fill(int place, long v) {
        for (int i = 0; i < 8; i++) {
            long at = (long) place + i;
            if (at >= 0 && at < 262144) {
                filled.put((int) at, (int) (v >> 8 * i & 255));
            }
        }
    }

    public void op(int newOp, int newSize, int newCondition) {
        op = newOp;
        size = newSize;
        condition = newCondition;
        kinds = new int[3];
        numbers = new int[3];
    }

    public boolean operand(int k, int kind, int register) {
        if (k < 0 || k > 2 || kind < 0 || kind > 3 || register < 0 || register > (kind == 1 ? 15 : 0)) {
            return false;
        }
        kinds[k] = kind;
        numbers[k] = register;
        return true;
    }

    public void memory(int newBase, int newIndex, int newScale, int newDisplacement) {
        base = newBase;
        index = newIndex;
        scale = newScale;
        displacement = newDisplacement;
    }

    public void number(long v) {
        number = v;
    }

    public boolean set(int k, long v) {
        if (k == 16) {
            ip = v;
        } else if (k >= 0 && k <= 15) {
            registers[k] = v;
        }
        return k >= 0 && k <= 16;
    }

    public long register(int k) {
        if (k >= 0 && k < 16) {
            return registers[k];
        }
        return k == 16 ? ip : k == 17 ? flagsWord() : k == 18 ? breakAddress : k == 19 ? steps : 0;
    }

    public boolean input(long word, int n) {
        if (n < 1 || n > 8 || input.size() + n > 65536) {
            return false;
        }
        for (int i = n - 1; i >= 0; i--) {
            input.add((int) (word >> 8 * i & 255));
        }
        return true;
    }

    public int output(int i) {
        return i == -1 ? output.size() : i >= 0 && i < output.size() ? output.get(i) : -1;
    }

    public int peek(long a) {
        return mayRead(a) ? bytes.getOrDefault(a, 0) : -1;
    }

    public boolean poke(long a, int v) {
        if (mayWrite(a)) {
            bytes.put(a, v & 255);
            return true;
        }
        return false;
    }

    private boolean mayWrite(long a) {
        long place = a - 0x400000L;
        return (place >= rows[3] && place < rows[4]) || (a >= heap && a < breakAddress)
            || (a >= 0x7ffef000L && a < 0x7ffff000L);
    }

    private boolean mayRead(long a) {
        long place = a - 0x400000L;
        return mayWrite(a) || (place >= 0 && place < rows[0]) || (place >= rows[1] && place < rows[2]);
    }

    private long flagsWord() {
        return 2 + (c ? 1 : 0) + (p ? 4 : 0) + (z ? 64 : 0) + (s ? 128 : 0) + (o ? 2048 : 0);
    }

    private boolean sound() {
        boolean fits = SoundList.has(op, size, kinds, numbers) && SoundList.conditionFits(op, condition);
        for (int kind : kinds) {
            fits = fits && (kind != 2 || SoundList.memoryFits(base, index, scale));
            fits = fits && (kind != 3 || SoundList.numberFits(op, size, number));
        }
        return fits;
    }

    public int step(int length) {
        if (ended || length < 1 || length > 15 || !sound()) {
            return -1;
        }
        long[] oldRegisters = registers.clone();
        boolean[] oldFlags = {c, p, z, s, o};
        undo = new HashMap<>();
        next = ip + length;
        long there = ip;
        value = 0;
        int stop = 0;
        try {
            execute(oldRegisters);
        } catch (Stop e) {
            stop = e.kind;
            value = e.value;
        }
        if (stop == 2 || stop == 3 || stop == 5) {
            registers = oldRegisters;
            c = oldFlags[0];
            p = oldFlags[1];
            z = oldFlags[2];
            s = oldFlags[3];
            o = oldFlags[4];
            bytes.putAll(undo);
            ip = there;
        } else {
            ip = next;
            steps++;
        }
        ended = stop == 1;
        return stop;
    }

    private static BigInteger unsigned(long v, int size) {
        return BigInteger.valueOf(v).mod(BigInteger.ONE.shiftLeft(8 * size));
    }

    private static BigInteger signed(long v, int size) {
        BigInteger b = unsigned(v, size);
        return b.testBit(8 * size - 1) ? b.subtract(BigInteger.ONE.shiftLeft(8 * size)) : b;
    }

    private long addressWith(long[] r) {
        BigInteger a = BigInteger.valueOf(base == -1 ? 0 : base == 16 ? next : r[base]);
        a = a.add(BigInteger.valueOf(index == -1 ? 0 : r[index]).multiply(BigInteger.valueOf(scale)));
        return a.add(BigInteger.valueOf(displacement)).longValue();
    }

    private long load(long a, int n) throws Stop {
        long v = 0;
        for (int i = 0; i < n; i++) {
            if (!mayRead(a + i)) {
                throw new Stop(3, a);
            }
            v |= (long) bytes.getOrDefault(a + i, 0) << 8 * i;
        }
        return v;
    }

    private void save(long a, int n, long v) throws Stop {
        for (int i = 0; i < n; i++) {
            if (!mayWrite(a + i)) {
                throw new Stop(3, a);
            }
        }
        for (int i = 0; i < n; i++) {
            undo.putIfAbsent(a + i, bytes.getOrDefault(a + i, 0));
            bytes.put(a + i, (int) (v >>> 8 * i & 255));
        }
    }

    private long low(long v, int n) {
        return unsigned(v, n).longValue();
    }

    private void write(int k, int n, long v) {
        if (n == 4) {
            registers[k] = low(v, 4);
        } else if (n == 8) {
            registers[k] = v;
        } else {
            registers[k] = registers[k] >> 8 * n << 8 * n | low(v, n);
        }
    }

    private long get(int k, int n, long[] was) throws Stop {
        if (kinds[k] == 1) {
            return low(registers[numbers[k]], n);
        }
        return kinds[k] == 2 ? load(addressWith(was), n) : low(number, n);
    }

    private void put(int k, int n, long v, long[] was) throws Stop {
        if (kinds[k] == 1) {
            write(numbers[k], n, v);
        } else {
            save(addressWith(was), n, v);
        }
    }

    private void zsp(long result, int n) {
        z = low(result, n) == 0;
        s = signed(result, n).signum() < 0;
        p = true;
        for (int i = 0; i < 8; i++) {
            p ^= (result >> i & 1) != 0;
        }
    }

    private boolean fits(BigInteger v, int n, boolean signs) {
        return (signs ? signed(v.longValue(), n) : unsigned(v.longValue(), n)).equals(v);
    }

    /** x + sign * (y + more), its C, O and zsp; answers the sum. */
    private long sum(long x, long y, int sign, int more, boolean withCarry) {
        BigInteger factor = BigInteger.valueOf(sign);
        BigInteger extra = BigInteger.valueOf(more);
        BigInteger plain = unsigned(x, size).add(factor.multiply(unsigned(y, size).add(extra)));
        BigInteger withSigns = signed(x, size).add(factor.multiply(signed(y, size).add(extra)));
        if (withCarry) {
            c = !fits(plain, size, false);
        }
        o = !fits(withSigns, size, true);
        zsp(plain.longValue(), size);
        return plain.longValue();
    }

    private long bitwise(long result) {
        c = false;
        o = false;
        zsp(result, size);
        return result;
    }

    private void execute(long[] was) throws Stop {
        if ((op <= 9 && op != 8) || op == 15 || op == 16 || op == 21 || op == 22 || (op >= 46 && op <= 49)) {
            reckon(was);
        } else if (op <= 14 || (op >= 35 && op <= 38) || op == 44 || op == 45) {
            move(was);
        } else if (op <= 20 || op == 23) {
            multiplyOrDivide(was);
        } else if (op <= 28) {
            shift(was);
        } else if (op <= 34 || op == 43) {
            flow(was);
        } else if (op == 40) {
            throw new Stop(6, 0);
        } else if (op == 41) {
            throw new Stop(2, 0);
        } else if (op == 42) {
            syscall();
        } else if (op >= 50) {
            strings();
        }
    }

    private void reckon(long[] was) throws Stop {
        int carry = c ? 1 : 0;
        long x = get(0, size, was);
        long y = kinds[1] == 0 ? 0 : get(1, size, was);
        switch (op) {
            case 0: put(0, size, sum(x, y, 1, 0, true), was); break;
            case 1: put(0, size, bitwise(x | y), was); break;
            case 2: put(0, size, sum(x, y, 1, carry, true), was); break;
            case 3: put(0, size, sum(x, y, -1, carry, true), was); break;
            case 4: put(0, size, bitwise(x & y), was); break;
            case 5: put(0, size, sum(x, y, -1, 0, true), was); break;
            case 6: put(0, size, bitwise(x ^ y), was); break;
            case 7: sum(x, y, -1, 0, true); break;
            case 9: bitwise(x & y); break;
            case 15: put(0, size, ~x, was); break;
            case 16: put(0, size, sum(0, x, -1, 0, true), was); break;
            case 21: put(0, size, sum(x, 1, 1, 0, false), was); break;
            case 22: put(0, size, sum(x, 1, -1, 0, false), was); break;
            case 46:
                long turned = Long.reverseBytes(x);
                put(0, size, size == 4 ? turned >>> 32 : turned, was);
                break;
            case 47: c = unsigned(x, 8).testBit((int) (y & (size == 8 ? 63 : 31))); break;
            case 48:
                put(1, size, x, was);
                put(0, size, sum(x, y, 1, 0, true), was);
                break;
            default:
                long a = low(registers[0], size);
                sum(a, x, -1, 0, true);
                if (a == x) {
                    put(0, size, y, was);
                } else {
                    write(0, size, x);
                }
                break;
        }
    }

    private boolean holds() {
        boolean[] even = {o, c, z, c || z, s, p, s != o, z || s != o};
        return even[condition / 2] == (condition % 2 == 0);
    }

    private void move(long[] was) throws Stop {
        switch (op) {
            case 8: put(0, size, get(1, size, was), was); break;
            case 10:
                long x = get(0, size, was);
                long y = get(1, size, was);
                put(0, size, y, was);
                put(1, size, x, was);
                break;
            case 11: put(0, size, addressWith(was), was); break;
            case 12: put(0, size, get(1, 1, was), was); break;
            case 13: put(0, size, (byte) get(1, 1, was), was); break;
            case 14: put(0, size, (int) get(1, 4, was), was); break;
            case 35: put(0, 1, holds() ? 1 : 0, was); break;
            case 36:
                long taken = get(1, size, was);
                put(0, size, holds() ? taken : get(0, size, was), was);
                break;
            case 37: write(2, size, signed(registers[0], size).signum() < 0 ? -1 : 0); break;
            case 38: write(0, size, size == 4 ? (short) registers[0] : (int) registers[0]); break;
            default:
                BigInteger bits = unsigned(get(1, size, was), 8);
                z = bits.signum() == 0;
                if (!z) {
                    put(0, size, op == 44 ? bits.getLowestSetBit() : bits.bitLength() - 1, was);
                }
                break;
        }
    }

    private void pair(BigInteger low, BigInteger high) {
        write(0, size, low.longValue());
        if (size == 1) {
            write(0, 2, low.longValue() & 255 | (high.longValue() & 255) << 8);
        } else {
            write(2, size, high.longValue());
        }
    }

    private void multiplyOrDivide(long[] was) throws Stop {
        boolean signs = op == 18 || op == 20 || op == 23;
        long x = get(0, size, was);
        if (op == 23) {
            long y = get(1, size, was);
            BigInteger product = signed(y, size).multiply(kinds[2] == 3 ? BigInteger.valueOf(number) : signed(x, size));
            put(0, size, product.longValue(), was);
            c = o = !fits(product, size, true);
        } else if (op <= 18) {
            BigInteger a = signs ? signed(registers[0], size) : unsigned(registers[0], size);
            BigInteger product = a.multiply(signs ? signed(x, size) : unsigned(x, size));
            pair(product, product.shiftRight(8 * size));
            c = o = !fits(product, size, signs);
        } else {
            long above = size == 1 ? registers[0] >> 8 : registers[2];
            BigInteger upper = signs ? signed(above, size) : unsigned(above, size);
            BigInteger dividend = upper.shiftLeft(8 * size).add(unsigned(registers[0], size));
            BigInteger divisor = signs ? signed(x, size) : unsigned(x, size);
            if (divisor.signum() == 0 || !fits(dividend.divide(divisor), size, signs)) {
                throw new Stop(5, 0);
            }
            BigInteger[] both = dividend.divideAndRemainder(divisor);
            pair(both[0], both[1]);
        }
    }

    private void shift(long[] was) throws Stop {
        int n = 8 * size;
        BigInteger x = unsigned(get(0, size, was), size);
        int by = (int) (get(1, 1, was) % (size == 8 ? 64 : 32));
        if (by == 0) {
            return;
        }
        BigInteger v = x;
        for (int i = 0; i < by; i++) {
            boolean up = op == 24 || op == 26;
            boolean top = v.testBit(n - 1);
            c = up ? top : v.testBit(0);
            v = up ? v.shiftLeft(1).clearBit(n) : v.shiftRight(1);
            if (c && (op == 24 || op == 25)) {
                v = v.setBit(op == 24 ? 0 : n - 1);
            }
            if (op == 28 && top) {
                v = v.setBit(n - 1);
            }
        }
        if (by == 1) {
            boolean top = v.testBit(n - 1);
            o = op == 25 ? top != v.testBit(n - 2) : op == 27 ? x.testBit(n - 1) : op != 28 && c != top;
        }
        if (op >= 26) {
            zsp(v.longValue(), size);
        }
        put(0, size, v.longValue(), was);
    }

    private void push(long v) throws Stop {
        registers[4] -= 8;
        save(registers[4], 8, v);
    }

    private long pop() throws Stop {
        long v = load(registers[4], 8);
        registers[4] += 8;
        return v;
    }

    private void flow(long[] was) throws Stop {
        switch (op) {
            case 29: push(kinds[0] == 3 ? number : get(0, 8, was)); break;
            case 30:
                long popped = pop();
                put(0, 8, popped, registers);
                break;
            case 33:
                long there = pop();
                registers[4] += kinds[0] == 3 ? number : 0;
                next = there;
                break;
            case 43:
                registers[4] = registers[5];
                registers[5] = pop();
                break;
            default:
                long to = kinds[0] == 3 ? next + number : get(0, 8, was);
                if (op == 32) {
                    push(next);
                }
                if (op != 34 || holds()) {
                    next = to;
                }
                break;
        }
    }

    private void strings() throws Stop {
        boolean copies = op == 50 || op == 52;
        if (op >= 52 && registers[1] == 0) {
            return;
        }
        save(registers[7], size, copies ? load(registers[6], size) : registers[0]);
        registers[7] += size;
        registers[6] += copies ? size : 0;
        if (op >= 52) {
            registers[1]--;
            if (registers[1] != 0) {
                next = ip;
            }
        }
    }

    private void syscall() throws Stop {
        registers[1] = next;
        registers[11] = flagsWord();
        if (registers[0] == 0) {
            registers[0] = takeInput();
        } else if (registers[0] == 1) {
            registers[0] = giveOutput();
        } else if (registers[0] == 12) {
            if (registers[7] >= heap && registers[7] <= heap + 65536) {
                breakAddress = registers[7];
                bytes.keySet().removeIf(a -> a >= breakAddress && a < 0x7ffef000L);
            }
            registers[0] = breakAddress;
        } else if (registers[0] == 60) {
            throw new Stop(1, registers[7]);
        } else {
            registers[0] = -38;
        }
    }

    private long takeInput() {
        long n = unsigned(registers[2], 8).min(BigInteger.valueOf(input.size())).longValue();
        for (long i = 0; i < n; i++) {
            if (!mayWrite(registers[6] + i)) {
                return -14;
            }
        }
        for (long i = 0; i < n; i++) {
            bytes.put(registers[6] + i, input.remove());
        }
        return n;
    }

    private long giveOutput() {
        BigInteger wanted = unsigned(registers[2], 8).add(BigInteger.valueOf(output.size()));
        if (wanted.compareTo(BigInteger.valueOf(65536)) > 0) {
            return -28;
        }
        for (long i = 0; i < registers[2]; i++) {
            if (!mayRead(registers[6] + i)) {
                return -14;
            }
        }
        for (long i = 0; i < registers[2]; i++) {
            output.add(bytes.getOrDefault(registers[6] + i, 0));
        }
        return registers[2];
    }
}
