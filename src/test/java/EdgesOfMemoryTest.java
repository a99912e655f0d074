/** 'Terms', the memory's parts and rights, addresses, IP, and STOP 3, sentence by sentence at the edges. */
public final class EdgesOfMemoryTest {
    private static final long IMAGE = Rig.IMAGE;
    private static final long STACK = Rig.STACK;
    private static final long TOP = Rig.STACK_END;
    private static final long NOWHERE = 0x1000;
    private static final long CELL = IMAGE + 0x200;
    private static final long WORD = 0x8182838485868788L;

    // Every shape with a memory operand: op, size, operands; what is only read may lie in RODATA.
    private static final String[] READS = {
        "0 8 rm", "1 4 rm", "2 1 rm", "3 8 rm", "4 4 rm", "5 1 rm", "6 8 rm", "7 4 rm", "8 1 rm", "8 4 rm", "8 8 rm",
        "7 1 mr", "7 4 mi", "9 8 mr", "9 1 mi", "12 4 rm", "12 8 rm", "13 4 rm", "13 8 rm", "14 8 rm",
        "17 1 m", "17 8 m", "18 4 m", "19 4 m", "20 8 m", "23 4 rm", "23 8 rmi", "29 8 m", "31 0 m", "32 0 m",
        "36 4 rm", "36 8 rm", "44 4 rm", "44 8 rm", "45 4 rm", "45 8 rm", "47 4 mr", "47 8 mi"
    };
    private static final String[] WRITES = {
        "0 1 mr", "0 8 mi", "1 4 mr", "2 8 mr", "3 1 mi", "4 4 mi", "5 8 mr", "6 1 mr", "8 1 mr", "8 4 mi", "8 8 mi",
        "10 1 mr", "10 8 mr", "15 1 m", "15 8 m", "16 4 m", "21 8 m", "22 1 m", "24 1 mi", "25 4 m1", "26 8 mi", "27 1 m1",
        "28 4 mi", "30 8 m", "35 1 m", "48 1 mr", "48 8 mr", "49 8 mr"
    };

    public static void main(String[] args) {
        whereTheImageBegins();
        howLongAnImageIs();
        rowsOfTheImage();
        emptyRows();
        rowsThatTouch();
        whereTheHeapBegins();
        howFarTheHeapGoes();
        theStack();
        nothingElse();
        theNextAddress();
        addressesGoRound();
        theAddressOfAnOperand();
        operandsAsAWhole();
        allIsAsBefore();
        readFirst();
        pushedOnes();
        poppedOnes();
        strings();
        Due.end();
    }

    private static Rig rig() {
        Rig rig = new Rig();
        for (int i = 0; i < 128; i += 8) {
            rig.m.fill(i, WORD + i);
        }
        Due.yes("begin", rig.m.begin(4096, 32, 64, 128, 256, 4096));
        for (int k = 0; k < 16; k++) {
            rig.put(k, 3 + k);
        }
        return rig.put(2, 0).put(4, TOP - 256);
    }

    private static void rights(FlagMachine m, String what, long address, boolean read, boolean write) {
        Due.equal(what + ": peek", m.peek(address) >= 0 ? 1 : 0, read ? 1 : 0);
        Due.equal(what + ": poke", m.poke(address, m.peek(address)) ? 1 : 0, write ? 1 : 0);
    }

    private static void whereTheImageBegins() {
        Due.about("the IMAGE begins at 0x400000");
        FlagMachine m = new FlagMachine();
        Due.yes("begin", m.begin(16, 16, 16, 16, 16, 16));
        rights(m, "ahead of it", 0x3fffffL, false, false);
        rights(m, "its first byte", 0x400000L, true, false);
        Due.yes("begin", m.begin(16, 0, 0, 0, 0, 16));
        rights(m, "ahead of it", 0x3fffffL, false, false);
        rights(m, "its first byte", 0x400000L, true, true);
    }

    private static void howLongAnImageIs() {
        Due.about("and has up to 262144 bytes");
        FlagMachine m = new FlagMachine();
        m.fill(262136, WORD);
        Due.yes("the largest", m.begin(262144, 0, 0, 0, 0, 262144));
        Due.equal("its last byte", m.peek(IMAGE + 262143), 0x81);
        rights(m, "its last byte", IMAGE + 262143, true, true);
        rights(m, "behind it", IMAGE + 262144, false, false);
        Due.no("too large", m.begin(262145, 0, 0, 0, 0, 262144));
    }

    private static void row(FlagMachine m, String what, long from, long to, boolean write) {
        rights(m, "ahead of " + what, from - 1, false, false);
        rights(m, "first of " + what, from, true, write);
        rights(m, "last of " + what, to - 1, true, write);
        rights(m, "behind " + what, to, false, false);
    }

    private static void rowsOfTheImage() {
        FlagMachine m = new FlagMachine();
        Due.yes("begin", m.begin(4000, 100, 200, 300, 400, 500));
        Due.about("the TEXT at its beginning may be read");
        row(m, "TEXT", IMAGE, IMAGE + 100, false);
        Due.about("RODATA read");
        row(m, "RODATA", IMAGE + 200, IMAGE + 300, false);
        Due.about("DATA read and written");
        row(m, "DATA", IMAGE + 400, IMAGE + 500, true);
        Due.about("nothing else: what the image has beside its rows");
        rights(m, "the image's last byte", IMAGE + 3999, false, false);
    }

    private static void emptyRows() {
        Due.about("each a row of addresses: an empty one has none");
        FlagMachine m = new FlagMachine();
        Due.yes("begin", m.begin(100, 0, 50, 50, 50, 50));
        for (long a : new long[] {0, 1, 49, 50, 51, 99, 100}) {
            rights(m, "byte " + a, IMAGE + a, false, false);
        }
        Due.yes("begin", m.begin(100, 100, 100, 100, 100, 100));
        rights(m, "TEXT alone", IMAGE + 99, true, false);
        Due.yes("begin", m.begin(100, 0, 0, 100, 100, 100));
        rights(m, "RODATA alone", IMAGE, true, false);
        Due.yes("begin", m.begin(100, 0, 0, 0, 0, 100));
        rights(m, "DATA alone", IMAGE, true, true);
    }

    private static void rowsThatTouch() {
        Due.about("a byte that is read or written may not be: each byte by its own row");
        Rig rig = new Rig();
        Due.yes("begin", rig.m.begin(4096, 100, 100, 200, 200, 4096));
        rig.put(0, 12).put(7, IMAGE + 4096 + 16).tell(42, 0).step("break", 0);
        for (int back = 1; back < 8; back++) {
            rig.tell(8, 8).reg(0, 3).at(1, IMAGE + 100 - back).step("TEXT on into RODATA", 0);
            rig.at(1, IMAGE + 200 - back).step("RODATA on into DATA", 0);
            rig.at(1, IMAGE + 4096 - back).step("DATA on into the HEAP", 0);
            rig.at(1, IMAGE + 4096 + 16 - back).stops("the HEAP on behind the BREAK", 3, IMAGE + 4096 + 16 - back);
            rig.tell(8, 8).reg(1, 3).at(0, IMAGE + 4096 - back).step("DATA on into the HEAP, written", 0);
            rig.at(0, IMAGE + 200 - back).stops("RODATA on into DATA, written", 3, IMAGE + 200 - back);
        }
        // With a gap of one byte between the rows no operand goes over it.
        Due.yes("begin", rig.m.begin(4095, 100, 101, 200, 201, 4095));
        rig.put(0, 12).put(7, IMAGE + 4096 + 16).tell(42, 0).step("break", 0);
        rig.tell(8, 4).reg(0, 3).at(1, IMAGE + 98).stops("TEXT and a gap", 3, IMAGE + 98);
        rig.at(1, IMAGE + 198).stops("RODATA and a gap", 3, IMAGE + 198);
        rig.at(1, IMAGE + 4093).stops("DATA and a gap", 3, IMAGE + 4093);
        rig.at(1, IMAGE + 96).step("the last of TEXT", 0);
        rig.at(1, IMAGE + 196).step("the last of RODATA", 0);
        rig.at(1, IMAGE + 4091).step("the last of DATA", 0);
    }

    private static void whereTheHeapBegins() {
        Due.about("the HEAP begins at the multiple of 4096 behind the image");
        int[][] rows = {{0, 0}, {1, 4096}, {4095, 4096}, {4096, 4096}, {4097, 8192}, {8191, 8192}, {8192, 8192},
            {258048, 258048}, {258049, 262144}, {262143, 262144}, {262144, 262144}};
        for (int[] row : rows) {
            Rig rig = new Rig();
            Due.yes("begin", rig.m.begin(row[0], 0, 0, 0, 0, 0));
            rig.register("image of " + row[0], 18, IMAGE + row[1]);
            Due.equal("no byte yet", rig.m.peek(IMAGE + row[1]), -1);
            rig.put(0, 12).put(7, IMAGE + row[1] + 1).tell(42, 0).step("break", 0);
            row(rig.m, "a HEAP of one byte", IMAGE + row[1], IMAGE + row[1] + 1, true);
        }
    }

    private static void howFarTheHeapGoes() {
        Due.about("and goes to the BREAK, at first its beginning, at most 65536 bytes on");
        for (int image : new int[] {0, 1, 262144}) {
            Rig rig = new Rig();
            Due.yes("begin", rig.m.begin(image, 0, 0, 0, 0, 0));
            long heap = rig.m.register(18);
            rig.put(0, 12).put(7, heap + 65537).tell(42, 0).step("break", 0);
            rig.register("one too far", 18, heap);
            rig.put(0, 12).put(7, heap + 65536).step("break", 0);
            rig.register("all", 18, heap + 65536);
            row(rig.m, "HEAP", heap, heap + 65536, true);
        }
    }

    private static void theStack() {
        Due.about("the STACK has the 65536 bytes below 0x7ffff000");
        row(new FlagMachine(), "STACK", 0x7ffef000L, 0x7ffff000L, true);
        Rig rig = new Rig();
        for (int size : new int[] {1, 4, 8}) {
            for (int off = -8; off <= 8; off++) {
                boolean low = off >= 0;
                boolean high = off <= -size;
                at(rig, size, STACK + off, low);
                at(rig, size, TOP + off, high);
            }
        }
    }

    private static void at(Rig rig, int size, long address, boolean may) {
        String what = size + " bytes at " + address;
        rig.put(5, address).m.memory(5, -1, 1, 0);
        rig.tell(8, size).kinds("rm").step("read " + what, may ? 0 : 3);
        Due.equal("value of read " + what, rig.m.value(), may ? 0 : address);
        rig.tell(8, size).kinds("mi");
        rig.m.number(7);
        rig.step("write " + what, may ? 0 : 3);
        Due.equal("value of write " + what, rig.m.value(), may ? 0 : address);
    }

    private static void nothingElse() {
        Due.about("HEAP and STACK may be read and written, nothing else");
        FlagMachine m = rig().m;
        for (int bit = 0; bit < 64; bit++) {
            rights(m, "bit " + bit, 1L << bit, bit == 22, false);
            boolean inData = bit >= 8 && bit < 12;
            rights(m, "the image's address with another bit " + bit, IMAGE ^ 1L << bit, bit < 5 || bit == 6 || inData, inData);
            if (bit > 12) {
                rights(m, "the stack's with another bit " + bit, (TOP - 1) ^ 1L << bit, bit < 16, bit < 16);
            }
        }
    }

    private static void theNextAddress() {
        Due.about("IP is where the instruction in hand is; the next one's address is IP + LENGTH");
        Rig rig = rig();
        for (int length = 1; length <= 15; length++) {
            rig.put(16, -length).tell(39, 0);
            Due.equal("step", rig.m.step(length), 0);
            rig.register("round to 0 by " + length, 16, 0);
            rig.put(16, Long.MAX_VALUE - length + 1);
            Due.equal("step", rig.m.step(length), 0);
            rig.register("round to the least by " + length, 16, Long.MIN_VALUE);
            rig.put(16, CELL - length).tell(8, 8).reg(0, 3).mem(1).m.memory(16, -1, 1, 0);
            rig.m.poke(CELL, length);
            Due.equal("step", rig.m.step(length), 0);
            rig.register("base 16 is the next address", 3, length);
        }
        rig.put(16, -2).tell(11, 8).reg(0, 3).mem(1).m.memory(16, -1, 1, Integer.MAX_VALUE);
        rig.step("lea", 0);
        rig.register("base 16 goes round", 3, Integer.MAX_VALUE + 1L);
        rig.put(16, Long.MIN_VALUE).m.memory(16, -1, 1, -4);
        rig.step("lea", 0);
        rig.register("base 16 goes round below", 3, Long.MAX_VALUE);
    }

    private static void addressesGoRound() {
        Due.about("An address: base + index * scale + displacement");
        Rig rig = rig();
        rig.poke(CELL, 8, WORD);
        rig.tell(8, 8).reg(0, 3).mem(1);
        for (int scale = 1; scale <= 8; scale *= 2) {
            rig.put(5, CELL - 16 * scale).put(6, 16).put(3, 0).m.memory(5, 6, scale, 0);
            rig.step("scale " + scale, 0);
            rig.register("scale " + scale, 3, WORD);
            rig.put(5, CELL + 16 * scale).put(6, -16).put(3, 0).step("index below 0", 0);
            rig.register("index below 0, scale " + scale, 3, WORD);
        }
        rig.put(5, CELL).put(6, 1L << 61).put(3, 0).m.memory(5, 6, 8, 0);
        rig.step("index * 8 goes round", 0);
        rig.register("index * 8 goes round", 3, WORD);
        rig.put(5, Long.MIN_VALUE).put(6, Long.MIN_VALUE).put(3, 0).m.memory(5, 6, 1, (int) CELL);
        rig.step("base + index goes round", 0);
        rig.register("base + index goes round", 3, WORD);
        rig.put(5, CELL + 0x80000000L).put(3, 0).m.memory(5, -1, 1, Integer.MIN_VALUE);
        rig.step("the least displacement", 0);
        rig.register("the least displacement", 3, WORD);
        rig.put(5, CELL - 0x7fffffffL).put(3, 0).m.memory(5, -1, 1, Integer.MAX_VALUE);
        rig.step("the largest displacement", 0);
        rig.register("the largest displacement", 3, WORD);
        rig.put(3, 0).m.memory(-1, -1, 1, -1);
        rig.stops("a displacement below 0 has its sign", 3, -1);
        rig.put(5, -4).m.memory(5, -1, 1, 0);
        rig.stops("bytes round the end of all addresses", 3, -4);
    }

    private static void theAddressOfAnOperand() {
        Due.about("of registers as they are ahead of the step");
        Rig rig = rig();
        rig.poke(CELL, 8, 77);
        rig.put(3, CELL).tell(8, 8).reg(0, 3).mem(1).m.memory(3, -1, 1, 0);
        rig.step("mov x from where x is", 0);
        rig.register("x", 3, 77);
        rig.put(3, CELL).tell(10, 8).mem(0).reg(1, 3).step("change places", 0);
        rig.register("y", 3, 77);
        Due.equal("x", rig.word(CELL, 8), CELL);
        rig.poke(CELL, 8, 77);
        rig.put(3, CELL).tell(48, 8).mem(0).reg(1, 3).step("xadd", 0);
        rig.register("y", 3, 77);
        Due.equal("x", rig.word(CELL, 8), CELL + 77);
        rig.put(4, TOP - 64).poke(TOP - 64, 8, 55);
        rig.tell(29, 8).mem(0).m.memory(4, -1, 1, 0);
        rig.step("push what is at rsp", 0);
        Due.equal("pushed", rig.word(TOP - 72, 8), 55);
        Due.about("but by 30: an address with rsp as it is then");
        rig.poke(TOP - 64, 8, 56);
        rig.put(4, TOP - 64).tell(30, 8).mem(0).step("pop to rsp", 0);
        Due.equal("popped to the grown rsp", rig.word(TOP - 56, 8), 56);
        rig.put(4, TOP - 64).poke(TOP - 64, 8, 57);
        rig.put(6, 2).m.memory(4, 6, 8, 4);
        rig.step("pop to rsp + 20", 0);
        Due.equal("popped", rig.word(TOP - 36, 8), 57);
        rig.register("rsp", 4, TOP - 56);
    }

    private static void operandsAsAWhole() {
        Due.about("an operand is read as a whole, and written as a whole");
        Rig rig = rig();
        for (int inside = 0; inside < 8; inside++) {
            long address = IMAGE + 4096 - inside;
            rig.put(3, -1).tell(8, 8).at(0, address).reg(1, 3).stops("write, " + inside + " bytes inside", 3, address);
            rig.tell(21, 8).at(0, address).stops("inc, " + inside + " bytes inside", 3, address);
            rig.tell(8, 8).reg(0, 3).at(1, address).stops("read, " + inside + " bytes inside", 3, address);
            long ahead = IMAGE + 256 - 8 + inside;
            rig.tell(8, 8).at(0, ahead).reg(1, 3).stops("write, " + inside + " bytes inside at its beginning", 3, ahead);
            rig.tell(8, 8).reg(0, 3).at(1, ahead).stops("read, " + inside + " bytes inside at its beginning", 3, ahead);
        }
        for (int size : new int[] {1, 4, 8}) {
            rig.tell(8, size).at(0, IMAGE + 4096 - size).reg(1, 3).step("the last bytes", 0);
            rig.tell(8, size).at(0, IMAGE + 256).reg(1, 3).step("the first bytes", 0);
        }
        int[][] taken = {{12, 4, 1}, {12, 8, 1}, {13, 4, 1}, {13, 8, 1}, {14, 8, 4}};
        for (int[] row : taken) {
            rig.tell(row[0], row[1]).reg(0, 3).at(1, IMAGE + 4096 - row[2]).step("op " + row[0] + " of the last bytes", 0);
            rig.register("op " + row[0] + " size " + row[1], 3, row[0] == 12 ? 255 : row[1] == 4 ? 0xffffffffL : -1);
            rig.at(1, IMAGE + 4096 - row[2] + 1).stops("op " + row[0] + " one too far", 3, IMAGE + 4096 - row[2] + 1);
        }
        rig.tell(29, 8).at(0, IMAGE + 4088).step("push the last bytes", 0);
        rig.at(0, IMAGE + 4089).stops("push one too far", 3, IMAGE + 4089);
        rig.tell(35, 1).at(0, IMAGE + 4095).step("a condition's byte", 0);
        rig.at(0, IMAGE + 4096).stops("a condition's byte one too far", 3, IMAGE + 4096);
        for (int op = 31; op <= 32; op++) {
            rig.tell(op, 0).at(0, IMAGE + 4089).stops("jump one too far", 3, IMAGE + 4089);
            rig.tell(op, 0).at(0, IMAGE + 4088).step("jump by the last bytes", 0);
        }
    }

    private static Rig told(String row) {
        String[] parts = row.split(" ");
        Rig rig = rig();
        rig.m.number(1);
        return rig.tell(Integer.parseInt(parts[0]), Integer.parseInt(parts[1])).kinds(parts[2]);
    }

    private static Rig toldAt(String row, long address) {
        Rig rig = told(row);
        rig.m.memory(-1, -1, 1, (int) address);
        return rig;
    }

    private static void allIsAsBefore() {
        Due.about("STOP 3: a byte that is read may not be (the value: the address of the operand): all is as before the step");
        for (String row : READS) {
            toldAt(row, NOWHERE).stops(row, 3, NOWHERE);
            toldAt(row, IMAGE + 64).step(row + " in RODATA", 0);
            toldAt(row, IMAGE).step(row + " in TEXT", 0);
        }
        Due.about("STOP 3: a byte that is written may not be (the value: the address of the operand): all is as before the step");
        for (String row : WRITES) {
            toldAt(row, NOWHERE).put(0, WORD).stops(row, 3, NOWHERE);
            toldAt(row, IMAGE + 64).put(0, WORD + 64).put(1, 1).stops(row + " in RODATA", 3, IMAGE + 64);
            toldAt(row, IMAGE).put(0, WORD).put(1, 1).stops(row + " in TEXT", 3, IMAGE);
            toldAt(row, CELL).put(1, 1).step(row + " in DATA", 0);
        }
        Due.about("11: the address of y, which is not read");
        toldAt("11 8 rm", NOWHERE).step("lea", 0);
        Due.about("24 to 28: By 0 nothing changes (x is read)");
        for (int op = 24; op <= 28; op++) {
            Rig rig = toldAt(op + " 8 mi", IMAGE + 64);
            rig.m.number(64);
            rig.step("by 0 in RODATA", 0);
            rig = toldAt(op + " 8 mi", NOWHERE);
            rig.m.number(64);
            rig.stops("by 0 where nothing is", 3, NOWHERE);
        }
        Due.about("49: if they are the same, x becomes y, else rax becomes x");
        toldAt("49 8 mr", IMAGE + 64).put(0, 1).step("not the same in RODATA", 0);
        toldAt("49 8 mr", NOWHERE).put(0, 0).stops("not there", 3, NOWHERE);
    }

    private static void readFirst() {
        Due.about("A memory operand that is read and written is read first; 29, 32: x is read, then it is pushed");
        for (String row : new String[] {"29 8 m", "32 0 m"}) {
            toldAt(row, NOWHERE).put(4, 5).stops(row, 3, NOWHERE);
            toldAt(row, IMAGE + 64).put(4, 5).stops(row, 3, -3);
        }
        Due.about("30: what is at rsp is read, then x is written");
        toldAt("30 8 m", NOWHERE).put(4, 5).stops("neither", 3, 5);
        toldAt("30 8 m", NOWHERE).stops("x may not be", 3, NOWHERE);
        Rig rig = told("30 8 m").put(4, TOP - 8);
        rig.m.memory(4, -1, 1, 0);
        rig.stops("x is at the grown rsp", 3, TOP);
        rig.m.memory(4, -1, 1, -8);
        rig.step("x is where rsp was", 0);
    }

    private static void pushedOnes() {
        Due.about("of a pushed one rsp, register 4, less 8");
        for (String row : new String[] {"29 8 r", "29 8 i", "29 8 m", "32 0 r", "32 0 i", "32 0 m"}) {
            for (long rsp : new long[] {STACK + 7, STACK + 1, STACK, TOP + 1, TOP + 7, TOP + 8, 0, 7, 8, Long.MIN_VALUE, -1, IMAGE + 263, IMAGE + 4097}) {
                toldAt(row, CELL).put(4, rsp).stops(row + ", rsp " + rsp, 3, rsp - 8);
            }
            for (long rsp : new long[] {STACK + 8, TOP, TOP - 1, IMAGE + 264, IMAGE + 4096}) {
                Rig rig = toldAt(row, CELL).put(4, rsp).put(3, WORD).put(16, WORD);
                rig.poke(CELL, 8, WORD);
                rig.step(row + ", rsp " + rsp, 0);
                rig.register(row, 4, rsp - 8);
                boolean call = row.startsWith("32");
                Due.equal(row, rig.word(rsp - 8, 8), call ? WORD + 3 : row.endsWith("i") ? 1 : WORD);
                rig.register(row, 16, !call ? WORD + 3 : row.endsWith("i") ? WORD + 4 : WORD);
            }
        }
    }

    private static void poppedOnes() {
        Due.about("30, 33: what is at rsp is read, rsp grows by 8");
        long[] wrong = {STACK - 1, STACK - 8, TOP - 7, TOP, TOP + 8, 0, -1, -8, Long.MAX_VALUE, Long.MIN_VALUE, IMAGE + 121, IMAGE + 4089};
        long[] right = {STACK, TOP - 8, TOP - 9, IMAGE, IMAGE + 24, IMAGE + 64, IMAGE + 120, IMAGE + 4088};
        for (String row : new String[] {"30 8 r", "30 8 m", "33 0 n", "33 0 i"}) {
            for (long rsp : wrong) {
                toldAt(row, CELL).put(4, rsp).stops(row + ", rsp " + rsp, 3, rsp);
            }
            for (long rsp : right) {
                Rig rig = toldAt(row, CELL).put(4, rsp);
                long want = rig.word(rsp, 8);
                rig.step(row + ", rsp " + rsp, 0);
                rig.register(row, 4, rsp + (row.endsWith("i") ? 9 : 8));
                Due.equal(row, row.startsWith("33") ? rig.m.register(16) : row.endsWith("m") ? rig.word(CELL, 8) : rig.m.register(3), want);
                rig.register(row, 16, row.startsWith("33") ? want : IMAGE + 3);
            }
        }
        Due.about("43: rsp becomes rbp, rbp is popped");
        for (long rbp : wrong) {
            rig().put(5, rbp).tell(43, 0).stops("rbp " + rbp, 3, rbp);
        }
        for (long rbp : right) {
            Rig rig = rig().put(5, rbp).put(4, 9);
            long want = rig.word(rbp, 8);
            rig.tell(43, 0).step("rbp " + rbp, 0);
            rig.register("rsp", 4, rbp + 8);
            rig.register("rbp", 5, want);
        }
        Due.about("33: IP is popped, then rsp grows by y");
        for (int n : new int[] {0, 1, 32767, 32768, 65535}) {
            Rig rig = rig().put(4, TOP - 8).tell(33, 0).num(0, n);
            rig.poke(TOP - 8, 8, WORD);
            rig.step("by " + n, 0);
            rig.register("IP", 16, WORD);
            rig.register("rsp", 4, TOP + n);
        }
    }

    private static void strings() {
        for (int size : new int[] {1, 4, 8}) {
            Due.about("50: size bytes at rdi become those at rsi (read first)");
            for (int op : new int[] {50, 52}) {
                rig().put(6, IMAGE + 128 - size + 1).put(7, 5).tell(op, size).stops("rsi too far", 3, IMAGE + 128 - size + 1);
                rig().put(6, IMAGE + 128 - size).put(7, IMAGE + 4096 - size + 1).tell(op, size).stops("rdi too far", 3, IMAGE + 4096 - size + 1);
                rig().put(6, IMAGE + 128 - size).put(7, IMAGE + 255).tell(op, size).stops("rdi too low", 3, IMAGE + 255);
                Rig rig = rig().put(6, IMAGE + 128 - size).put(7, IMAGE + 4096 - size).put(1, 1).tell(op, size);
                rig.step("the last ones", 0);
                Due.equal("as at rsi", rig.word(IMAGE + 4096 - size, size), rig.word(IMAGE + 128 - size, size));
                rig.register("rsi", 6, IMAGE + 128);
                rig.register("rdi", 7, IMAGE + 4096);
            }
            Due.about("51: those of rax, rdi grows");
            for (int op : new int[] {51, 53}) {
                rig().put(7, IMAGE + 4096 - size + 1).tell(op, size).stops("rdi too far", 3, IMAGE + 4096 - size + 1);
                rig().put(7, IMAGE + 255).tell(op, size).stops("rdi too low", 3, IMAGE + 255);
                Rig rig = rig().put(0, WORD).put(6, 5).put(7, IMAGE + 4096 - size).put(1, 1).tell(op, size);
                rig.step("the last ones", 0);
                Due.equal("as rax", rig.word(IMAGE + 4096 - size, size), WORD & Samples.mask(size));
                rig.register("rsi stays", 6, 5);
                rig.register("rdi", 7, IMAGE + 4096);
            }
        }
    }
}
