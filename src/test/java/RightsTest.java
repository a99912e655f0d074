/** Promises 14 and 15: peek and poke; and promise 8: where a step may read and write. */
public final class RightsTest {
    private static final long IMAGE = Rig.IMAGE;
    private static final long TOP = Rig.STACK_END;

    public static void main(String[] args) {
        everyRow(8192, 100, 4096, 4200, 4352, 8000, 300);
        everyRow(8192, 100, 100, 4200, 4200, 8192, 4096);
        everyRow(262144, 0, 0, 0, 262000, 262144, 65536);
        everyRow(0, 0, 0, 0, 0, 0, 65536);
        everyRow(50, 50, 50, 50, 50, 50, 0);
        farAddresses();
        pokedBytes();
        operandsAsAWhole();
        noWayFromHeapToStack();
        Due.end();
    }

    private static void everyRow(int image, int text, int rodata, int rodataEnd, int data, int dataEnd, int heapBytes) {
        Rig rig = new Rig();
        Due.yes("begin", rig.m.begin(image, text, rodata, rodataEnd, data, dataEnd));
        long heap = IMAGE + (image + 4095) / 4096 * 4096;
        rig.put(0, 12).put(7, heap + heapBytes).tell(42, 0).step("break", 0);
        long[] edges = {0, text, rodata, rodataEnd, data, dataEnd, image, heap - IMAGE, heap - IMAGE + heapBytes,
            heap - IMAGE + 65536, TOP - IMAGE, TOP - 65536 - IMAGE};
        for (long edge : edges) {
            for (long a = IMAGE + edge - 12; a <= IMAGE + edge + 12; a++) {
                for (int size = 1; size <= 8; size += size == 1 ? 3 : 4) {
                    boolean mayRead = true;
                    boolean mayWrite = true;
                    for (long b = a; b < a + size; b++) {
                        long place = b - IMAGE;
                        boolean open = (place >= data && place < dataEnd) || (b >= heap && b < heap + heapBytes)
                            || (b >= TOP - 65536 && b < TOP);
                        mayWrite &= open;
                        mayRead &= open || (place >= 0 && place < text) || (place >= rodata && place < rodataEnd);
                    }
                    operandAt(rig, a, size, mayRead, mayWrite);
                }
            }
        }
    }

    private static void operandAt(Rig rig, long address, int size, boolean mayRead, boolean mayWrite) {
        String what = size + " bytes at " + address;
        if (size == 1) {
            Due.equal("peek " + address, rig.m.peek(address) >= 0 ? 1 : 0, mayRead ? 1 : 0);
            Due.equal("poke " + address, rig.m.poke(address, 0) ? 1 : 0, mayWrite ? 1 : 0);
        }
        rig.m.memory(3, -1, 1, 0);
        rig.put(3, address).tell(7, size).mem(0).num(1, 0).step("read " + what, mayRead ? 0 : 3);
        Due.equal("value of read " + what, rig.m.value(), mayRead ? 0 : address);
        rig.tell(8, size).mem(0).num(1, 0).step("write " + what, mayWrite ? 0 : 3);
        Due.equal("value of write " + what, rig.m.value(), mayWrite ? 0 : address);
        rig.tell(1, size).mem(0).num(1, 0).step("both " + what, mayWrite ? 0 : 3);
        Due.equal("value of both " + what, rig.m.value(), mayWrite ? 0 : address);
    }

    private static void farAddresses() {
        Rig rig = new Rig();
        Due.yes("begin", rig.m.begin(4096, 4096, 4096, 4096, 4096, 4096));
        long[] far = {0, -1, -4, -8, 1, Long.MIN_VALUE, Long.MAX_VALUE, IMAGE + (1L << 32), IMAGE | Long.MIN_VALUE,
            TOP - 8 + (1L << 32), TOP - 8 - (1L << 32), -IMAGE, 0xffffffffL};
        for (long a : far) {
            Due.equal("peek " + a, rig.m.peek(a), -1);
            Due.no("poke " + a, rig.m.poke(a, 5));
            rig.m.memory(3, -1, 1, 0);
            rig.put(3, a).tell(8, 8).reg(0, 6).mem(1);
            rig.stops("read at " + a, 3, a);
            rig.tell(8, 8).mem(0).reg(1, 6);
            rig.stops("write at " + a, 3, a);
        }
    }

    private static void pokedBytes() {
        Rig rig = new Rig();
        Due.yes("begin", rig.m.begin(4096, 16, 16, 32, 32, 4096));
        Due.yes("poke", rig.m.poke(IMAGE + 32, 0x1ff));
        Due.equal("its lowest byte", rig.m.peek(IMAGE + 32), 255);
        Due.yes("poke", rig.m.poke(IMAGE + 32, -256));
        Due.equal("0", rig.m.peek(IMAGE + 32), 0);
        Due.yes("poke", rig.m.poke(IMAGE + 33, 128));
        Due.equal("its neighbour", rig.m.peek(IMAGE + 32), 0);
        Due.equal("without a sign", rig.m.peek(IMAGE + 33), 128);
        Due.no("poke TEXT", rig.m.poke(IMAGE, 1));
        Due.no("poke RODATA", rig.m.poke(IMAGE + 31, 1));
        Due.equal("RODATA stays", rig.m.peek(IMAGE + 31), 0);
        Due.yes("poke", rig.m.poke(TOP - 65536, 3));
        Due.equal("the stack's first byte", rig.m.peek(TOP - 65536), 3);
        Due.equal("the stack's last byte", rig.m.peek(TOP - 1), 0);
    }

    private static void operandsAsAWhole() {
        Rig rig = new Rig();
        Due.yes("begin", rig.m.begin(4096, 0, 0, 64, 64, 4096));
        rig.put(3, -1);
        // None of an operand is written where a part of it may not be.
        rig.tell(8, 8).at(0, IMAGE + 60).reg(1, 3);
        rig.stops("from RODATA on into DATA", 3, IMAGE + 60);
        rig.tell(8, 8).at(0, IMAGE + 4092).reg(1, 3);
        rig.stops("from DATA on behind it", 3, IMAGE + 4092);
        rig.tell(0, 8).at(0, IMAGE + 4092).reg(1, 3);
        rig.stops("add there", 3, IMAGE + 4092);
        rig.tell(8, 8).reg(0, 5).at(1, IMAGE + 60).step("read from RODATA on into DATA", 0);
        // Operands that lie over the ends of inner pages come back as they went.
        for (int i = 0; i < 600; i++) {
            long v = 0x0102030405060708L * (i + 3);
            rig.put(3, v).tell(8, 8).at(0, IMAGE + 64 + i).reg(1, 3).step("write", 0);
            rig.tell(8, 8).reg(0, 5).at(1, IMAGE + 64 + i).step("read", 0);
            rig.register("at " + i, 5, v);
            Due.equal("byte at " + i, rig.m.peek(IMAGE + 64 + i), v & 255);
        }
    }

    private static void noWayFromHeapToStack() {
        Rig rig = new Rig();
        Due.yes("begin", rig.m.begin(262144, 0, 0, 0, 0, 262144));
        long end = IMAGE + 262144 + 65536;
        rig.put(0, 12).put(7, end).tell(42, 0).step("break", 0);
        rig.register("BREAK", 18, end);
        Due.yes("input", rig.m.input(1, 8));
        rig.put(0, 0).put(6, end - 7).put(2, 8).step("read over the heap's end", 0);
        rig.register("read over the heap's end", 0, -14);
        rig.put(0, 1).put(6, end - 7).put(2, 60000).step("write over the heap's end", 0);
        rig.register("write over the heap's end", 0, -14);
        rig.put(0, 0).put(6, IMAGE + 262140).put(2, 8).step("read from DATA on into the heap", 0);
        rig.register("read from DATA on into the heap", 0, 8);
        Due.equal("the last byte", rig.m.peek(IMAGE + 262147), 1);
    }
}
