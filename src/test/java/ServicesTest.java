/** Promise 8, op 42, and promises 12 and 13: input, output. */
public final class ServicesTest {
    private static final long DATA = 0x400040L;
    private static final long TOP = Rig.STACK_END;

    public static void main(String[] args) {
        registersOfASyscall();
        inputCalls();
        reads();
        readsThatMayNot();
        writes();
        writesThatMayNot();
        writesAcrossRows();
        outputIsFull();
        breaks();
        theEnd();
        Due.end();
    }

    private static Rig rig() {
        Rig rig = new Rig();
        for (int i = 0; i < 64; i += 8) {
            rig.m.fill(i, 0x4847464544434241L + i * 0x0101010101010101L);
        }
        Due.yes("begin", rig.m.begin(4096, 0, 0, 64, 64, 4096));
        return rig;
    }

    private static void registersOfASyscall() {
        for (int which = 0; which < 5; which++) {
            Rig rig = rig();
            long flags = rig.someFlags(which);
            for (int k = 0; k < 16; k++) {
                rig.put(k, 5000 + k);
            }
            rig.tell(42, 0);
            long[] before = rig.picture();
            rig.step("unknown", 0);
            before[0] = -38;
            before[1] = 0x400003L;
            before[11] = flags;
            before[16] += 3;
            before[19] += 1;
            rig.same("unknown", before);
        }
        Rig rig = rig();
        for (long rax : new long[] {-1, 2, 11, 13, 59, 61, 1L << 32, 60 + (1L << 32), Long.MIN_VALUE}) {
            rig.syscall("unknown " + rax, rax, 0, 0, 0, -38);
        }
    }

    private static void inputCalls() {
        FlagMachine m = new FlagMachine();
        for (int n : new int[] {0, -1, 9, Integer.MAX_VALUE, Integer.MIN_VALUE}) {
            Due.no("input of " + n, m.input(5, n));
        }
        for (int n = 1; n <= 8; n++) {
            Due.yes("input of " + n, m.input(5, n));
        }
        FlagMachine full = new FlagMachine();
        for (int i = 0; i < 8191; i++) {
            full.input(i, 8);
        }
        Due.yes("7 more", full.input(0, 7));
        Due.no("2 too many", full.input(0, 2));
        Due.yes("the last one", full.input(0, 1));
        Due.no("one too many", full.input(0, 1));
    }

    private static void reads() {
        Rig rig = rig();
        Due.yes("input", rig.m.input(0x4142434445464748L, 8));
        Due.yes("input", rig.m.input(0x1111222233335152L, 2));
        Due.no("refused", rig.m.input(0x99, 0));
        rig.syscall("read 3", 0, 99, DATA, 3, 3);
        Due.equal("read 3", rig.word(DATA, 4), 0x434241);
        rig.register("rsi stays", 6, DATA);
        rig.register("rdx stays", 2, 3);
        rig.syscall("read 0", 0, 0, 1, 0, 0);
        rig.syscall("read all", 0, 0, DATA + 8, -1, 7);
        Due.equal("read all", rig.word(DATA + 8, 8), 0x0052514847464544L);
        rig.syscall("nothing left", 0, 0, 1, 100, 0);
        Due.yes("input", rig.m.input(0xffL, 1));
        rig.syscall("to the stack's last byte", 0, 0, TOP - 1, 100, 1);
        Due.equal("to the stack's last byte", rig.m.peek(TOP - 1), 255);
        // INPUT may take more in all than it holds at once.
        for (int i = 0; i < 9000; i++) {
            rig.m.input(i, 8);
            if (i % 100 == 99) {
                rig.syscall("read 800", 0, 0, DATA, 800, 800);
                Due.equal("the last of 800", rig.m.peek(DATA + 799), i & 255);
                Due.equal("the last but one", rig.m.peek(DATA + 798), i >> 8);
            }
        }
    }

    private static void readsThatMayNot() {
        Rig rig = rig();
        long flags = rig.someFlags(3);
        Due.yes("input", rig.m.input(0x4142434445464748L, 8));
        long[] wrong = {0, DATA - 1, 0x400ffdL, 0x401000L, TOP - 3, TOP, TOP - 65536 - 1, -1, -4, Long.MIN_VALUE, Long.MAX_VALUE};
        for (long rsi : wrong) {
            rig.put(0, 0).put(7, 0).put(6, rsi).put(2, 4).tell(42, 0);
            long[] before = rig.picture();
            rig.step("read to " + rsi, 0);
            before[0] = -14;
            before[1] = before[16] + 3;
            before[11] = flags;
            before[16] += 3;
            before[19] += 1;
            rig.same("read to " + rsi, before);
        }
        rig.syscall("all is still there", 0, 0, 0x400ff8L, 1000, 8);
        Due.equal("all is still there", rig.word(0x400ff8L, 8), 0x4847464544434241L);
    }

    private static void writes() {
        Rig rig = rig();
        Due.equal("none", rig.m.output(-1), 0);
        Due.equal("none", rig.m.output(0), -1);
        rig.syscall("write 3", 1, 99, 0x400001L, 3, 3);
        rig.syscall("write 0", 1, 1, 5, 0, 0);
        rig.poke(DATA, 8, 0x00ff80);
        rig.syscall("write 5", 1, 2, DATA - 2, 5, 5);
        int[] want = {0x42, 0x43, 0x44, 0x7f, 0x80, 0x80, 0xff, 0};
        Due.equal("how many", rig.m.output(-1), 8);
        for (int i = 0; i < want.length; i++) {
            Due.equal("byte " + i, rig.m.output(i), want[i]);
        }
        for (int i : new int[] {8, -2, Integer.MAX_VALUE, Integer.MIN_VALUE}) {
            Due.equal("byte " + i, rig.m.output(i), -1);
        }
        rig.poke(DATA, 8, -1);
        Due.equal("what is out stays", rig.m.output(5), 0x80);
        // Bytes of an earlier OUTPUT must not come back where only zeros are written.
        Due.yes("begin", rig.m.begin(4096, 0, 0, 64, 64, 4096));
        rig.syscall("write zeros", 1, 1, DATA + 512, 20, 20);
        for (int i = 0; i < 20; i++) {
            Due.equal("zero " + i, rig.m.output(i), 0);
        }
    }

    private static void writesThatMayNot() {
        Rig rig = rig();
        long flags = rig.someFlags(3);
        long[] wrong = {0, 0x3fffffL, 0x400ffdL, 0x401000L, TOP - 3, TOP, TOP - 65536 - 1, -1, -4, Long.MIN_VALUE, Long.MAX_VALUE};
        for (long rsi : wrong) {
            rig.put(0, 1).put(7, 1).put(6, rsi).put(2, 4).tell(42, 0);
            long[] before = rig.picture();
            rig.step("write from " + rsi, 0);
            before[0] = -14;
            before[1] = before[16] + 3;
            before[11] = flags;
            before[16] += 3;
            before[19] += 1;
            rig.same("write from " + rsi, before);
        }
    }

    private static void writesAcrossRows() {
        Rig rig = new Rig();
        FlagMachine m = rig.m;
        for (int i = 0; i < 8192; i += 8) {
            m.fill(i, i * 0x0102030405060709L);
        }
        Due.yes("begin", m.begin(8192, 1000, 1000, 3001, 3001, 8192));
        rig.syscall("break", 12, 0x402000L + 5000, 0, 0, 0x402000L + 5000);
        for (int i = 0; i < 5000; i += 7) {
            m.poke(0x402000L + i, i);
        }
        rig.syscall("write a little", 1, 1, 0x400003L, 13, 13);
        rig.syscall("write across", 1, 1, 0x400005L, 13000, 13000);
        for (int i = 0; i < 13000; i++) {
            Due.equal("byte " + i, m.output(13 + i), m.peek(0x400005L + i));
        }
        rig.syscall("one too many", 1, 1, 0x400005L, 8192 + 5000 - 5 + 1, -14);
        Due.yes("begin with a gap", m.begin(8192, 1000, 1001, 3001, 3001, 8192));
        rig.syscall("across the gap", 1, 1, 0x400000L + 999, 2, -14);
        rig.syscall("ahead of the gap", 1, 1, 0x400000L + 999, 1, 1);
    }

    private static void outputIsFull() {
        Rig rig = new Rig();
        rig.m.fill(65530, -1L);
        Due.yes("begin", rig.m.begin(131072, 131072, 131072, 131072, 131072, 131072));
        rig.syscall("too many at once", 1, 1, 0x400000L, 65537, -28);
        rig.syscall("without a sign", 1, 1, 0x400000L, -1, -28);
        rig.syscall("ahead of -14", 1, 1, 0, 65537, -28);
        rig.syscall("all at once", 1, 1, 0x400000L, 65536, 65536);
        Due.equal("how many", rig.m.output(-1), 65536);
        Due.equal("the last", rig.m.output(65535), 255);
        Due.equal("ahead of it", rig.m.output(65529), 0);
        Due.equal("behind it", rig.m.output(65536), -1);
        rig.syscall("one more", 1, 1, 0x400000L, 1, -28);
        rig.syscall("one more, not readable", 1, 1, 0, 1, -28);
        rig.syscall("none more", 1, 1, 0, 0, 0);
    }

    private static void breaks() {
        Rig rig = rig();
        long heap = 0x401000L;
        rig.syscall("ask", 12, 0, 0, 0, heap);
        rig.syscall("below", 12, heap - 1, 0, 0, heap);
        rig.syscall("too far", 12, heap + 65537, 0, 0, heap);
        rig.syscall("far below 0", 12, Long.MIN_VALUE, 0, 0, heap);
        rig.syscall("far above", 12, Long.MAX_VALUE, 0, 0, heap);
        rig.syscall("low half alone", 12, heap + 10 + (1L << 32), 0, 0, heap);
        rig.syscall("all", 12, heap + 65536, 0, 0, heap + 65536);
        rig.register("BREAK", 18, heap + 65536);
        for (long a = heap; a < heap + 65536; a += 97) {
            Due.yes("poke", rig.m.poke(a, 7));
        }
        rig.syscall("back", 12, heap + 1000, 0, 0, heap + 1000);
        Due.equal("kept", rig.m.peek(heap + 970), 7);
        Due.equal("gone", rig.m.peek(heap + 1000), -1);
        Due.no("gone", rig.m.poke(heap + 1000, 1));
        rig.syscall("refused", 12, heap - 1, 0, 0, heap + 1000);
        rig.syscall("forth", 12, heap + 65536, 0, 0, heap + 65536);
        Due.equal("kept", rig.m.peek(heap + 970), 7);
        for (long a = heap + 1000; a < heap + 65536; a++) {
            Due.equal("0 when it comes back", rig.m.peek(a), 0);
        }
        rig.syscall("to the beginning", 12, heap, 0, 0, heap);
        Due.equal("no heap", rig.m.peek(heap), -1);
    }

    private static void theEnd() {
        Rig rig = rig();
        long flags = rig.someFlags(2);
        long steps = rig.m.register(19);
        rig.put(0, 60).put(7, -5).put(1, 1).tell(42, 0).step("end", 1);
        Due.equal("value", rig.m.value(), -5);
        rig.register("IP", 16, 0x400003L);
        rig.register("rcx", 1, 0x400003L);
        rig.register("r11", 11, flags);
        rig.register("rax stays", 0, 60);
        rig.register("steps", 19, steps + 1);
        rig.stops("nothing more", -1, -5);
        rig.tell(39, 0);
        rig.stops("nothing more", -1, -5);
        Due.yes("set goes on", rig.m.set(0, 9));
        rig.register("set goes on", 0, 9);
        Due.yes("poke goes on", rig.m.poke(DATA, 9));
        Due.yes("input goes on", rig.m.input(0, 1));
        Due.no("a refused begin", rig.m.begin(-1, 0, 0, 0, 0, 0));
        rig.stops("nothing more", -1, -5);
        Due.yes("begin", rig.m.begin(0, 0, 0, 0, 0, 0));
        Due.equal("value", rig.m.value(), 0);
        rig.step("it goes on", 0);
    }
}
