/** Promises 1, 2 and 3: a new object, begin, fill. */
public final class BeginTest {
    private static final long IMAGE = Rig.IMAGE;

    public static void main(String[] args) {
        newObject();
        numbersOfBegin();
        refusedBeginChangesNothing();
        beginAnew();
        filledBytes();
        filledEdges();
        imageIsTakenAtBegin();
        heapBehindImage();
        Due.end();
    }

    private static void newObject() {
        Rig rig = new Rig();
        FlagMachine m = rig.m;
        rig.fresh("new", 0x400000L);
        Due.equal("new: no image", m.peek(IMAGE), -1);
        Due.equal("new: the stack's last byte", m.peek(0x7fffefffL), 0);
        Due.equal("new: op 39", m.step(1), 0);
        Due.equal("new: IP behind op 39", m.register(16), 0x400001L);
        Due.equal("new: a step was done", m.register(19), 1);
    }

    private static void numbersOfBegin() {
        FlagMachine m = new FlagMachine();
        Due.yes("all 0", m.begin(0, 0, 0, 0, 0, 0));
        Due.yes("largest", m.begin(262144, 262144, 262144, 262144, 262144, 262144));
        Due.yes("all inside", m.begin(100, 10, 20, 30, 40, 50));
        Due.yes("all the same", m.begin(100, 10, 10, 10, 10, 10));
        Due.no("image too large", m.begin(262145, 0, 0, 0, 0, 0));
        Due.no("image below 0", m.begin(-1, 0, 0, 0, 0, 0));
        Due.no("image below 0, all so", m.begin(-1, -1, -1, -1, -1, -1));
        Due.no("text below 0", m.begin(100, -1, 20, 30, 40, 50));
        Due.no("text above rodata", m.begin(100, 21, 20, 30, 40, 50));
        Due.no("rodata above its end", m.begin(100, 10, 31, 30, 40, 50));
        Due.no("rodata's end above data", m.begin(100, 10, 20, 41, 40, 50));
        Due.no("data above its end", m.begin(100, 10, 20, 30, 51, 50));
        Due.no("data's end above the image's", m.begin(100, 10, 20, 30, 40, 101));
        Due.yes("data's end is the image's", m.begin(100, 10, 20, 30, 40, 100));
        Due.no("far off", m.begin(Integer.MAX_VALUE, 0, 0, 0, 0, Integer.MAX_VALUE));
        Due.no("far below", m.begin(Integer.MIN_VALUE, 0, 0, 0, 0, 0));
    }

    private static void refusedBeginChangesNothing() {
        Rig rig = new Rig();
        rig.m.fill(0, 77);
        Due.yes("begin", rig.m.begin(4096, 16, 16, 16, 1024, 4096));
        rig.put(3, 5).put(4, 6).tell(39, 0).step("nothing", 0);
        rig.m.fill(0, 78);
        long[] before = rig.picture();
        Due.no("begin", rig.m.begin(10, 11, 11, 11, 11, 11));
        rig.same("refused begin", before);
    }

    private static void beginAnew() {
        Rig rig = new Rig();
        FlagMachine m = rig.m;
        m.fill(0, 0x1122334455667788L);
        Due.yes("begin", m.begin(8192, 0, 0, 0, 0, 8192));
        for (int k = 0; k < 17; k++) {
            m.set(k, 1000 + k);
        }
        rig.poke(IMAGE, 8, 5);
        rig.poke(Rig.STACK_END - 300, 8, 6);
        rig.put(0, 12).put(7, IMAGE + 8192 + 100).tell(42, 0).step("break", 0);
        rig.poke(IMAGE + 8192, 8, 7);
        Due.yes("input", m.input(65, 1));
        rig.put(0, 1).put(2, 4).put(6, IMAGE).step("write", 0);
        Due.equal("output", m.output(-1), 4);
        rig.put(0, -1).put(1, 1).tell(0, 8).reg(0, 0).reg(1, 1).step("flags", 0);
        rig.put(0, 60).put(7, 3).tell(42, 0).step("end", 1);

        Due.yes("begin again", m.begin(8192, 0, 0, 0, 0, 8192));
        rig.fresh("anew", IMAGE + 8192);
        Due.equal("the image as filled", rig.word(IMAGE, 8), 0x1122334455667788L);
        Due.equal("the stack is 0", rig.word(Rig.STACK_END - 300, 8), 0);
        Due.equal("no byte of OUTPUT", m.output(0), -1);
        Due.equal("no heap", m.peek(IMAGE + 8192), -1);
        Due.equal("the op in hand stays and is done", m.step(2), 0);
        rig.put(0, 12).put(7, IMAGE + 8192 + 8).step("break", 0);
        Due.equal("the heap is 0", rig.word(IMAGE + 8192, 8), 0);
        rig.put(0, 0).put(2, 5).put(6, IMAGE).step("read", 0);
        rig.register("INPUT is empty", 0, 0);
    }

    private static void filledBytes() {
        FlagMachine m = new FlagMachine();
        m.fill(3, 0x8877665544332211L);
        m.fill(7, 0x0102030405060708L);
        Due.yes("begin", m.begin(32, 32, 32, 32, 32, 32));
        int[] want = {0, 0, 0, 0x11, 0x22, 0x33, 0x44, 8, 7, 6, 5, 4, 3, 2, 1, 0};
        for (int i = 0; i < want.length; i++) {
            Due.equal("filled byte " + i, m.peek(IMAGE + i), want[i]);
        }
        m.fill(252, -1L);
        m.fill(1020, 0x0807060504030201L);
        Due.yes("begin", m.begin(2048, 2048, 2048, 2048, 2048, 2048));
        for (int i = 0; i < 8; i++) {
            Due.equal("byte of the second fill " + i, m.peek(IMAGE + 252 + i), 255);
            Due.equal("byte of the third fill " + i, m.peek(IMAGE + 1020 + i), i + 1);
        }
        Due.equal("the first fill is still there", m.peek(IMAGE + 3), 0x11);
        m.fill(1020, 0);
        Due.yes("begin", m.begin(2048, 2048, 2048, 2048, 2048, 2048));
        Due.equal("filled with 0", m.peek(IMAGE + 1021), 0);
    }

    private static void filledEdges() {
        FlagMachine m = new FlagMachine();
        m.fill(262140, 0x0807060504030201L);
        m.fill(262144, -1L);
        m.fill(Integer.MAX_VALUE, -1L);
        m.fill(Integer.MAX_VALUE - 3, -1L);
        m.fill(Integer.MIN_VALUE, -1L);
        m.fill(-8, -1L);
        m.fill(-3, 0x0807060504030201L);
        Due.yes("begin", m.begin(262144, 262144, 262144, 262144, 262144, 262144));
        for (int i = 0; i < 4; i++) {
            Due.equal("last bytes " + i, m.peek(IMAGE + 262140 + i), i + 1);
        }
        for (int i = 0; i < 5; i++) {
            Due.equal("first bytes " + i, m.peek(IMAGE + i), i + 4);
        }
        Due.equal("behind them", m.peek(IMAGE + 5), 0);
        Due.equal("behind the image", m.peek(IMAGE + 262144), -1);
    }

    private static void imageIsTakenAtBegin() {
        FlagMachine m = new FlagMachine();
        m.fill(0, 0x1111111111111111L);
        m.fill(16, 0x2222222222222222L);
        Due.yes("begin", m.begin(64, 64, 64, 64, 64, 64));
        m.fill(0, 0x3333333333333333L);
        Due.equal("fill behind begin", m.peek(IMAGE), 0x11);
        Due.yes("begin short", m.begin(12, 0, 0, 0, 0, 12));
        Due.equal("the new one", m.peek(IMAGE), 0x33);
        Due.equal("last of a short image", m.peek(IMAGE + 11), 0);
        Due.equal("behind a short image", m.peek(IMAGE + 12), -1);
        Due.yes("begin long", m.begin(64, 64, 64, 64, 64, 64));
        Due.equal("what was behind is there again", m.peek(IMAGE + 16), 0x22);
    }

    private static void heapBehindImage() {
        int[][] rows = {{0, 0}, {1, 4096}, {4095, 4096}, {4096, 4096}, {4097, 8192}, {262143, 262144}, {262144, 262144}};
        for (int[] row : rows) {
            Rig rig = new Rig();
            rig.m.fill(4096, -1L);
            Due.yes("begin " + row[0], rig.m.begin(row[0], 0, 0, 0, 0, 0));
            rig.register("image " + row[0], 18, IMAGE + row[1]);
            rig.put(0, 12).put(7, IMAGE + row[1] + 65536).tell(42, 0).step("break", 0);
            rig.register("image " + row[0], 0, IMAGE + row[1] + 65536);
            // What was filled behind the image's end must not shine through in the heap.
            Due.equal("heap's first", rig.m.peek(IMAGE + row[1]), 0);
            Due.equal("heap at 4096", rig.m.peek(IMAGE + Math.max(row[1], 4096)), 0);
            Due.equal("heap's last", rig.m.peek(IMAGE + row[1] + 65535), 0);
            Due.equal("behind the heap", rig.m.peek(IMAGE + row[1] + 65536), -1);
        }
    }
}
