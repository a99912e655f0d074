/** Promise 8, values that move: 8, 10 .. 14, 35, 36, 39, 50 .. 53, and how an address is made. */
public final class MovesTest {
    private static final int[] SIZES = {1, 4, 8};
    private static final long CELL = 0x400100L;
    private static final long WORD = 0x8182838485868788L;

    public static void main(String[] args) {
        moves();
        moveOfNumbers();
        addresses();
        widened();
        exchanged();
        nothingAndConditions();
        conditionalMoves();
        strings();
        repeatedStrings();
        Due.end();
    }

    private static Rig rig() {
        Rig rig = new Rig();
        rig.m.fill(0, WORD);
        Due.yes("begin", rig.m.begin(4096, 0, 0, 64, 64, 4096));
        return rig;
    }

    private static long low(long v, int size) {
        return v & Samples.mask(size);
    }

    private static long written(long old, long v, int size) {
        return size == 1 ? old & ~255L | v & 255 : low(v, size);
    }

    private static void moves() {
        for (int size : SIZES) {
            Rig rig = rig();
            long before = rig.someFlags(1);
            rig.put(3, -2).put(6, WORD).tell(8, size).reg(0, 3).reg(1, 6).step("mov", 0);
            rig.register("mov size " + size, 3, written(-2, WORD, size));
            rig.put(3, -2).tell(8, size).reg(0, 3).at(1, 0x400000L).step("mov", 0);
            rig.register("mov from memory, size " + size, 3, written(-2, WORD, size));
            rig.poke(CELL, 8, -1);
            rig.tell(8, size).at(0, CELL).reg(1, 6).step("mov", 0);
            Due.equal("mov to memory", rig.word(CELL, 8), size == 8 ? WORD : -1L & ~Samples.mask(size) | low(WORD, size));
            Due.equal("flags stay", rig.m.register(17), before);
            rig.tell(8, size).at(0, 0x400000L).reg(1, 6);
            rig.stops("mov to RODATA", 3, 0x400000L);
        }
    }

    private static void moveOfNumbers() {
        Rig rig = rig();
        rig.put(3, 0).tell(8, 1).reg(0, 3).num(1, -1).step("mov", 0);
        rig.register("a byte", 3, 255);
        rig.tell(8, 4).reg(0, 3).num(1, -1).step("mov", 0);
        rig.register("4 bytes", 3, 0xffffffffL);
        rig.tell(8, 8).reg(0, 3).num(1, Long.MIN_VALUE + 1).step("mov", 0);
        rig.register("8 bytes", 3, Long.MIN_VALUE + 1);
        rig.tell(8, 8).at(0, CELL).num(1, WORD).step("mov", 0);
        Due.equal("to memory", rig.word(CELL, 8), WORD);
        rig.put(3, 1).tell(0, 8).reg(0, 3).num(1, -2).step("add", 0);
        rig.register("a number with its sign", 3, -1);
    }

    private static void addresses() {
        Samples samples = new Samples(11);
        Rig rig = rig();
        for (int i = 0; i < 3000; i++) {
            for (int k = 0; k < 16; k++) {
                rig.put(k, samples.next());
            }
            int base = samples.below(18) - 1;
            int index = samples.below(17) - 1;
            index = index == 4 || base == 16 ? -1 : index;
            int scale = index == -1 ? 1 : 1 << samples.below(4);
            int displacement = (int) samples.value(4);
            int length = 1 + samples.below(15);
            int size = samples.below(2) == 0 ? 4 : 8;
            int target = samples.below(16);
            rig.put(16, samples.next());
            long from = base == -1 ? 0 : base == 16 ? rig.m.register(16) + length : rig.m.register(base);
            long want = from + (index == -1 ? 0 : rig.m.register(index) * scale) + displacement;
            long before = rig.m.register(17);
            rig.m.memory(base, index, scale, displacement);
            Due.equal("lea", rig.tell(11, size).reg(0, target).mem(1).m.step(length), 0);
            rig.register("address of " + base + " " + index + " " + scale + " " + displacement, target, low(want, size));
            Due.equal("flags stay", rig.m.register(17), before);
        }
        rig.m.memory(16, -1, 1, -7);
        rig.put(16, 0x400000L).tell(8, 8).reg(0, 3).mem(1);
        Due.equal("memory at the next address less 7", rig.m.step(7), 0);
        rig.register("memory at the next address less 7", 3, WORD);
    }

    private static void widened() {
        Rig rig = rig();
        rig.m.fill(0, 0xf1f2f3f4f5f6f780L);
        Due.yes("begin", rig.m.begin(8, 8, 8, 8, 8, 8));
        long before = rig.someFlags(3);
        rig.put(6, 0xf1f2f3f4f5f6f780L);
        for (int form = 0; form < 2; form++) {
            long[][] rows = {{12, 4, 0x80}, {12, 8, 0x80}, {13, 4, 0xffffff80L}, {13, 8, -128}, {14, 8, 0xfffffffff5f6f780L}};
            for (long[] row : rows) {
                rig.put(3, -1).tell((int) row[0], (int) row[1]).reg(0, 3);
                if (form == 0) {
                    rig.reg(1, 6);
                } else {
                    rig.at(1, 0x400000L);
                }
                rig.step("op " + row[0], 0);
                rig.register("op " + row[0] + " size " + row[1], 3, row[2]);
            }
        }
        // Only the bytes that are taken must be readable.
        rig.tell(12, 8).reg(0, 3).at(1, 0x400007L).step("the last byte", 0);
        rig.register("the last byte", 3, 0xf1);
        rig.tell(13, 4).reg(0, 3).at(1, 0x400008L);
        rig.stops("behind it", 3, 0x400008L);
        rig.tell(14, 8).reg(0, 3).at(1, 0x400004L).step("the last four", 0);
        rig.register("the last four", 3, 0xfffffffff1f2f3f4L);
        rig.tell(14, 8).reg(0, 3).at(1, 0x400005L);
        rig.stops("too far", 3, 0x400005L);
        Due.equal("flags stay", rig.m.register(17), before);
    }

    private static void exchanged() {
        for (int size : SIZES) {
            Rig rig = rig();
            long before = rig.someFlags(1);
            rig.put(3, WORD).put(6, -2).tell(10, size).reg(0, 3).reg(1, 6).step("xchg", 0);
            rig.register("x", 3, written(WORD, -2, size));
            rig.register("y", 6, written(-2, WORD, size));
            rig.put(3, WORD).tell(10, size).reg(0, 3).reg(1, 3).step("xchg with itself", 0);
            rig.register("itself", 3, written(WORD, WORD, size));
            rig.poke(CELL, 8, WORD);
            rig.put(6, CELL);
            rig.m.memory(6, -1, 1, 0);
            rig.tell(10, size).mem(0).reg(1, 6).step("xchg with memory at y", 0);
            rig.register("y", 6, written(CELL, WORD, size));
            Due.equal("memory", low(rig.word(CELL, 8), size), low(CELL, size));
            rig.tell(10, size).at(0, 0x400000L).reg(1, 6);
            rig.stops("xchg with RODATA", 3, 0x400000L);
            Due.equal("flags stay", rig.m.register(17), before);
        }
    }

    private static boolean holds(int condition, long flags) {
        boolean c = (flags & Rig.C) != 0;
        boolean p = (flags & Rig.P) != 0;
        boolean z = (flags & Rig.Z) != 0;
        boolean s = (flags & Rig.S) != 0;
        boolean o = (flags & Rig.O) != 0;
        boolean[] rows = {o, c, z, c || z, s, p, s ^ o, z || (s ^ o)};
        return rows[condition / 2] == (condition % 2 == 0);
    }

    private static void nothingAndConditions() {
        Rig rig = rig();
        for (int a = 0; a < 256; a += 3) {
            for (int b = 0; b < 256; b += 7) {
                long flags = rig.flagsOfSum(a, b);
                for (int condition = 0; condition < 16; condition++) {
                    rig.put(3, -1).when(35, 1, condition).reg(0, 3).step("setcc", 0);
                    rig.register("condition " + condition + " of flags " + flags, 3, holds(condition, flags) ? -255 : -256);
                    rig.put(16, 1000).when(34, 0, condition).num(0, -500).step("jcc", 0);
                    rig.register("jump, condition " + condition + " of flags " + flags, 16, holds(condition, flags) ? 503 : 1003);
                }
                Due.equal("flags stay", rig.m.register(17), flags);
            }
        }
        rig.when(35, 1, 5).at(0, CELL).step("setcc to memory", 0);
        rig.when(35, 1, 5).at(0, 0x400000L);
        rig.stops("setcc to RODATA", 3, 0x400000L);
        rig.tell(39, 0);
        long[] before = rig.picture();
        rig.step("nothing", 0);
        before[16] += 3;
        before[19] += 1;
        rig.same("nothing", before);
    }

    private static void conditionalMoves() {
        Rig rig = rig();
        rig.flagsOfSum(0x80, 0x80);
        rig.put(3, -2).put(6, WORD).when(36, 8, 4).reg(0, 3).reg(1, 6).step("Z", 0);
        rig.register("taken", 3, WORD);
        rig.put(3, -2).when(36, 8, 5).reg(0, 3).reg(1, 6).step("not Z", 0);
        rig.register("not taken", 3, -2);
        rig.when(36, 4, 5).reg(0, 3).reg(1, 6).step("not Z", 0);
        rig.register("x itself, written", 3, 0xfffffffeL);
        rig.when(36, 4, 4).reg(0, 3).at(1, 0x400000L).step("Z", 0);
        rig.register("from memory", 3, low(WORD, 4));
        rig.when(36, 4, 4).reg(0, 3).at(1, 0x1000);
        rig.stops("not readable", 3, 0x1000);
        rig.when(36, 4, 5).reg(0, 3).at(1, 0x1000);
        rig.stops("not readable, not taken", 3, 0x1000);
        rig.flags("flags stay", Rig.C | Rig.O | Rig.Z | Rig.P);
    }

    private static void strings() {
        for (int size : SIZES) {
            Rig rig = rig();
            long before = rig.someFlags(4);
            rig.put(6, 0x400000L).put(7, CELL).put(1, 9).put(0, -1).tell(50, size).step("50", 0);
            Due.equal("moved", rig.word(CELL, size), low(WORD, size));
            Due.equal("behind it", rig.m.peek(CELL + size), 0);
            rig.register("rsi", 6, 0x400000L + size);
            rig.register("rdi", 7, CELL + size);
            rig.register("rcx", 1, 9);
            rig.put(0, WORD).tell(51, size).step("51", 0);
            Due.equal("stored", rig.word(CELL + size, size), low(WORD, size));
            rig.register("rsi", 6, 0x400000L + size);
            rig.register("rdi", 7, CELL + 2 * size);
            rig.register("rax", 0, WORD);
            rig.put(7, 0x400000L).tell(51, size);
            rig.stops("51 to RODATA", 3, 0x400000L);
            rig.put(6, 0x1000).tell(50, size);
            rig.stops("50, read first", 3, 0x1000);
            rig.put(6, CELL);
            rig.stops("50 to RODATA", 3, 0x400000L);
            Due.equal("flags stay", rig.m.register(17), before);
        }
        // The bytes are read as a whole ahead of the write, where both overlap.
        Rig rig = rig();
        rig.poke(CELL, 8, WORD);
        rig.put(6, CELL).put(7, CELL + 1).tell(50, 8).step("50", 0);
        Due.equal("overlapping", rig.word(CELL + 1, 8), WORD);
    }

    private static void repeatedStrings() {
        for (int size : SIZES) {
            Rig rig = rig();
            long before = rig.someFlags(4);
            long steps = rig.m.register(19);
            rig.put(6, 0x400000L).put(7, CELL).put(1, 3).put(16, 5000).tell(52, size);
            for (int left = 2; left >= 0; left--) {
                rig.step("52", 0);
                rig.register("rcx", 1, left);
                rig.register("IP", 16, left == 0 ? 5003 : 5000);
                rig.register("rsi", 6, 0x400000L + (3 - left) * size);
                rig.register("rdi", 7, CELL + (3 - left) * size);
                rig.register("steps", 19, steps + 3 - left);
            }
            rig.put(6, 1).put(7, 2).step("rcx is 0", 0);
            rig.register("IP", 16, 5006);
            rig.register("rsi", 6, 1);
            rig.register("rdi", 7, 2);
            rig.tell(53, size).step("rcx is 0", 0);
            rig.register("IP", 16, 5009);
            rig.put(0, 7).put(1, -1).put(7, CELL).step("53", 0);
            rig.register("rcx", 1, -2);
            rig.register("IP", 16, 5009);
            rig.register("rdi", 7, CELL + size);
            rig.put(7, 0x400000L);
            rig.stops("53 to RODATA", 3, 0x400000L);
            rig.put(6, 0x1000).tell(52, size);
            rig.stops("52 from nowhere", 3, 0x1000);
            Due.equal("flags stay", rig.m.register(17), before);
        }
    }
}
