/** 'Promise 1' to 'Promise 15', sentence by sentence: what each call refuses, and what it answers at its edges. */
public final class EdgesOfCallsTest {
    private static final long IMAGE = Rig.IMAGE;
    private static final long TOP = Rig.STACK_END;
    private static final long WORD = 0x8877665544332211L;
    private static final int LEAST = Integer.MIN_VALUE;
    private static final int MOST = Integer.MAX_VALUE;

    public static void main(String[] args) {
        newObject();
        numbersOfBegin();
        refusedBegin();
        begunAnew();
        imageOfFilledBytes();
        fillAtTheEnds();
        opAndOperands();
        operandNumbers();
        memoryFields();
        numberOfAnInstruction();
        lengthsOfSteps();
        refusedSteps();
        valuesOfStops();
        registers();
        steps();
        sets();
        inputs();
        fullInput();
        outputs();
        peeks();
        pokes();
        Due.end();
    }

    private static void newObject() {
        Due.about("1: As after begin(0, 0, 0, 0, 0, 0)");
        Rig rig = new Rig();
        FlagMachine m = rig.m;
        rig.fresh("new", 0x400000L);
        Due.equal("no image", m.peek(IMAGE), -1);
        Due.equal("an empty stack", m.peek(TOP - 1), 0);
        Due.equal("an empty stack", m.peek(TOP - 65536), 0);
        Due.about("1: the op in hand is 39");
        Due.equal("a step", m.step(15), 0);
        Due.equal("IP", m.register(16), 0x40000fL);
        Due.equal("steps", m.register(19), 1);
        for (int k = 0; k < 16; k++) {
            Due.equal("register " + k, m.register(k), k == 4 ? 0x7ffff000L : 0);
        }
        Due.equal("flags", m.register(17), 2);
    }

    private static void begins(boolean want, int image, int text, int rodata, int rodataEnd, int data, int dataEnd) {
        String what = "begin(" + image + ", " + text + ", " + rodata + ", " + rodataEnd + ", " + data + ", " + dataEnd + ")";
        Due.equal(what, new FlagMachine().begin(image, text, rodata, rodataEnd, data, dataEnd) ? 1 : 0, want ? 1 : 0);
    }

    private static void numbersOfBegin() {
        Due.about("2: as many as this (0 .. 262144)");
        begins(true, 0, 0, 0, 0, 0, 0);
        begins(true, 262144, 0, 0, 0, 0, 0);
        begins(true, 262144, 262144, 262144, 262144, 262144, 262144);
        begins(false, -1, 0, 0, 0, 0, 0);
        begins(false, -1, -1, -1, -1, -1, -1);
        begins(false, 262145, 0, 0, 0, 0, 0);
        begins(false, 262145, 262145, 262145, 262145, 262145, 262145);
        begins(false, LEAST, LEAST, LEAST, LEAST, LEAST, LEAST);
        begins(false, MOST, 0, 0, 0, 0, 0);
        begins(false, MOST, MOST, MOST, MOST, MOST, MOST);
        Due.about("2: each is not below the one before it");
        begins(true, 60, 0, 0, 0, 0, 0);
        begins(true, 60, 10, 10, 10, 10, 10);
        begins(false, 60, -1, 20, 30, 40, 50);
        begins(false, 60, LEAST, 20, 30, 40, 50);
        begins(true, 60, 20, 20, 30, 40, 50);
        begins(false, 60, 21, 20, 30, 40, 50);
        begins(true, 60, 10, 30, 30, 40, 50);
        begins(false, 60, 10, 31, 30, 40, 50);
        begins(true, 60, 10, 20, 40, 40, 50);
        begins(false, 60, 10, 20, 41, 40, 50);
        begins(true, 60, 10, 20, 30, 50, 50);
        begins(false, 60, 10, 20, 30, 51, 50);
        begins(false, 60, 10, 9, 30, 40, 50);
        begins(false, 60, 10, 20, 19, 40, 50);
        begins(false, 60, 10, 20, 30, 29, 50);
        begins(false, 60, 10, 20, 30, 40, 39);
        begins(false, 60, 10, LEAST, 30, 40, 50);
        begins(false, 60, 10, 20, 30, 40, LEAST);
        Due.about("2: and not above the image's");
        begins(true, 50, 10, 20, 30, 40, 50);
        begins(false, 49, 10, 20, 30, 40, 50);
        begins(false, 60, 10, 20, 30, 40, 61);
        begins(false, 60, 10, 20, 30, 61, 61);
        begins(false, 60, 61, 61, 61, 61, 61);
        begins(false, 0, 0, 0, 0, 0, 1);
        begins(false, 60, 10, 20, 30, 40, MOST);
    }

    /** A machine in the midst of things: every part of its state is another than a new one's. */
    private static Rig busy() {
        Rig rig = new Rig();
        rig.m.fill(0, WORD);
        rig.m.fill(1024, WORD);
        Due.yes("begin", rig.m.begin(4096, 16, 16, 32, 64, 4096));
        rig.m.fill(0, -1L);
        rig.setFlags(Edge.ALL);
        rig.put(0, 12).put(7, IMAGE + 4096 + 100).tell(42, 0).step("break", 0);
        rig.put(0, 1).put(6, IMAGE).put(2, 5).step("write", 0);
        Due.yes("input", rig.m.input(0x414243, 3));
        rig.poke(IMAGE + 64, 1, 5);
        rig.poke(IMAGE + 1024, 1, 5);
        rig.poke(IMAGE + 4096, 1, 5);
        rig.poke(TOP - 1, 1, 5);
        rig.poke(TOP - 65536, 1, 5);
        for (int k = 0; k < 17; k++) {
            rig.put(k, 70 + k);
        }
        rig.put(5, 0x1234).tell(8, 8).reg(0, 3).mem(1).m.memory(5, -1, 1, 0);
        rig.step("a stop", 3);
        return rig;
    }

    private static void refusedBegin() {
        Due.about("2: false, changing nothing, if the numbers are not so");
        Rig rig = busy();
        long[] before = rig.picture();
        Due.no("begin", rig.m.begin(262145, 0, 0, 0, 0, 0));
        Due.no("begin", rig.m.begin(10, 11, 11, 11, 11, 11));
        Due.no("begin", rig.m.begin(-1, -1, -1, -1, -1, -1));
        Due.no("begin", rig.m.begin(4096, 16, 16, 32, 64, 4097));
        rig.same("a refused begin", before);
        Due.equal("value", rig.m.value(), 0x1234);
        Due.equal("OUTPUT", rig.m.output(4), 0x55);
        rig.step("the instruction in hand", 3);
        rig.put(0, 0).put(6, IMAGE + 64).put(2, 9).tell(42, 0).step("read", 0);
        rig.register("INPUT", 0, 3);
        rig.put(0, 60).step("end", 1);
        Due.no("begin", rig.m.begin(10, 11, 11, 11, 11, 11));
        Due.equal("the program has ended still", rig.m.step(1), -1);
        Due.yes("begin", rig.m.begin(8, 8, 8, 8, 8, 8));
        Due.equal("what was filled is there still", rig.word(IMAGE, 8), -1L);
    }

    private static void begunAnew() {
        Due.about("2: Registers, flags and STOP are 0 but rsp, which is 0x7ffff000, IP is 0x400000; INPUT, OUTPUT and HEAP are empty");
        for (int set = 0; set < 32; set++) {
            Rig rig = new Rig();
            rig.setFlags(Rig.flagsOf(set));
            Due.yes("begin", rig.m.begin(0, 0, 0, 0, 0, 0));
            rig.flags("of flags " + Rig.flagsOf(set), 0);
        }
        Rig rig = busy();
        Due.yes("begin", rig.m.begin(4096, 16, 16, 32, 64, 4096));
        rig.fresh("anew", IMAGE + 4096);
        Due.equal("no HEAP", rig.m.peek(IMAGE + 4096), -1);
        Due.equal("the image as it was filled", rig.word(IMAGE, 8), -1L);
        Due.equal("the image as it was filled", rig.m.peek(IMAGE + 64), 0);
        Due.equal("the image as it was filled", rig.m.peek(IMAGE + 1024), 0x11);
        Due.equal("the STACK", rig.m.peek(TOP - 1), 0);
        Due.equal("the STACK", rig.m.peek(TOP - 65536), 0);
        rig.put(0, 0).put(6, IMAGE + 64).put(2, 9).tell(42, 0).step("read", 0);
        rig.register("INPUT is empty", 0, 0);
        rig.put(0, 12).put(7, IMAGE + 4096 + 100).step("break", 0);
        Due.equal("the HEAP is 0", rig.m.peek(IMAGE + 4096), 0);
        rig.put(0, 60).step("end", 1);
        Due.yes("begin", rig.m.begin(0, 0, 0, 0, 0, 0));
        rig.fresh("behind an end", IMAGE);
        rig.tell(39, 0).step("it goes on", 0);
    }

    private static void imageOfFilledBytes() {
        Due.about("2: the image has the bytes that were filled, as many as this");
        for (int image : new int[] {0, 1, 7, 8, 9, 255, 256, 257, 600}) {
            FlagMachine m = new FlagMachine();
            for (int i = 0; i < 600; i += 8) {
                m.fill(i, WORD);
            }
            Due.yes("begin", m.begin(image, image, image, image, image, image));
            for (int i = 0; i < image; i++) {
                Due.equal("byte " + i + " of " + image, m.peek(IMAGE + i), 0x11 * (i % 8 + 1));
            }
            Due.equal("behind " + image, m.peek(IMAGE + image), -1);
        }
        FlagMachine m = new FlagMachine();
        m.fill(0, WORD);
        Due.yes("begin", m.begin(4, 0, 0, 0, 0, 4));
        Due.yes("poke", m.poke(IMAGE, 99));
        m.fill(2, -1L);
        Due.equal("a fill is for later begins", m.peek(IMAGE + 2), 0x33);
        Due.yes("begin", m.begin(12, 0, 0, 0, 0, 12));
        int[] want = {0x11, 0x22, 255, 255, 255, 255, 255, 255, 255, 255, 0, 0};
        for (int i = 0; i < want.length; i++) {
            Due.equal("byte " + i, m.peek(IMAGE + i), want[i]);
        }
    }

    private static void fillAtTheEnds() {
        Due.about("3: Eight bytes, from a place on, the lowest of v first");
        for (int place : new int[] {0, 1, 248, 249, 255, 256, 4095, 262136}) {
            FlagMachine m = new FlagMachine();
            m.fill(place, WORD);
            Due.yes("begin", m.begin(262144, 262144, 262144, 262144, 262144, 262144));
            for (int i = -2; i < 10; i++) {
                boolean inside = place + i >= 0 && place + i < 262144;
                Due.equal("place " + place + " byte " + i, m.peek(IMAGE + place + i), !inside ? -1 : i < 0 || i > 7 ? 0 : 0x11 * (i + 1));
            }
        }
        Due.about("3: those beyond 262144 are not there");
        for (int place : new int[] {262137, 262140, 262143, 262144, 262145, 524288, MOST - 8, MOST - 7, MOST - 6, MOST, LEAST, LEAST + 1, -9, -8}) {
            FlagMachine m = new FlagMachine();
            m.fill(place, WORD);
            Due.yes("begin", m.begin(262144, 262144, 262144, 262144, 262144, 262144));
            for (int i = 0; i < 8; i++) {
                Due.equal("place " + place + ", first bytes " + i, m.peek(IMAGE + i), 0);
                long at = 262136 + i;
                long k = at - place;
                Due.equal("place " + place + ", last bytes " + i, m.peek(IMAGE + at), k < 0 || k > 7 ? 0 : 0x11 * (k + 1));
            }
            Due.equal("behind the image", m.peek(IMAGE + 262144), -1);
        }
    }

    private static void opAndOperands() {
        Due.about("4: The op, size and condition become these; operands become NONE");
        Rig rig = new Rig();
        rig.tell(23, 8).kinds("rri").step("three operands", 0);
        rig.tell(23, 8);
        Due.equal("none is left", rig.m.step(3), -1);
        rig.reg(0, 3);
        Due.equal("y is none", rig.m.step(3), -1);
        rig.reg(1, 5).step("the third is none", 0);
        rig.tell(39, 0).step("no operand is left", 0);
        rig.m.op(LEAST, MOST, LEAST);
        Due.equal("any numbers may be told", rig.m.step(3), -1);
        rig.m.op(35, 1, 1);
        rig.put(3, 0).reg(0, 3).step("the last told counts", 0);
        rig.register("condition 1", 3, 1);
        rig.m.op(35, 1, 0);
        rig.reg(0, 3).step("the last told counts", 0);
        rig.register("condition 0", 3, 0);
        Due.about("4: the memory's fields and the number stay");
        rig.m.memory(-1, -1, 1, 77);
        rig.m.number(88);
        rig.tell(11, 8).kinds("rm").step("lea", 0);
        rig.register("displacement", 3, 77);
        rig.tell(8, 8).kinds("ri").step("mov", 0);
        rig.register("number", 3, 88);
    }

    private static void operands(boolean want, int k, int kind, int register) {
        Due.equal("operand(" + k + ", " + kind + ", " + register + ")", new FlagMachine().operand(k, kind, register) ? 1 : 0, want ? 1 : 0);
    }

    private static void operandNumbers() {
        Due.about("5: Operand k (0 .. 2)");
        for (int k : new int[] {LEAST, -2, -1, 0, 1, 2, 3, 4, MOST}) {
            operands(k >= 0 && k <= 2, k, 0, 0);
            operands(k >= 0 && k <= 2, k, 1, 15);
        }
        Due.about("5: becomes of a kind (0 .. 3)");
        for (int kind : new int[] {LEAST, -2, -1, 0, 1, 2, 3, 4, 5, MOST}) {
            operands(kind >= 0 && kind <= 3, 0, kind, 0);
            operands(kind >= 0 && kind <= 3, 2, kind, 0);
        }
        Due.about("5: with a register's number (0 .. 15");
        for (int register : new int[] {LEAST, -2, -1, 0, 1, 14, 15, 16, 17, 255, 256, MOST}) {
            operands(register >= 0 && register <= 15, 0, 1, register);
            operands(register >= 0 && register <= 15, 1, 1, register);
        }
        Due.about("5: 0 if it is none)");
        for (int kind : new int[] {0, 2, 3}) {
            for (int register : new int[] {LEAST, -1, 0, 1, 15, 16, MOST}) {
                operands(register == 0, 0, kind, register);
            }
        }
        Due.about("5: else false, changing nothing");
        Rig rig = new Rig();
        rig.put(3, 1).put(5, 41).tell(0, 8).kinds("rr");
        int[][] wrong = {{-1, 1, 0}, {3, 1, 0}, {0, 4, 0}, {0, -1, 0}, {0, 1, 16}, {0, 1, -1}, {1, 0, 1}, {1, 2, 5}, {1, 3, 5}, {2, 3, 1}, {MOST, 0, 0}, {LEAST, 0, 0}};
        for (int[] row : wrong) {
            Due.no("operand", rig.m.operand(row[0], row[1], row[2]));
        }
        rig.step("as it was", 0);
        rig.register("sum", 3, 42);
    }

    private static void memoryFields() {
        Due.about("6: The memory's fields become these");
        Rig rig = new Rig();
        rig.put(5, 1000).put(6, 10).tell(11, 8).kinds("rm");
        rig.m.memory(LEAST, MOST, LEAST, MOST);
        Due.equal("any numbers may be told", rig.m.step(3), -1);
        rig.m.memory(5, 6, 8, LEAST);
        rig.step("lea", 0);
        rig.register("the least displacement", 3, 1080L + LEAST);
        rig.m.memory(5, -1, 1, MOST);
        rig.step("lea", 0);
        rig.register("the largest displacement", 3, 1000L + MOST);
        rig.m.memory(15, 0, 1, 0);
        rig.put(15, -1).put(0, -1).step("lea", 0);
        rig.register("registers 15 and 0", 3, -2);
    }

    private static void numberOfAnInstruction() {
        Due.about("7: The number becomes this");
        Rig rig = new Rig();
        for (long v : new long[] {0, -1, Long.MIN_VALUE, Long.MAX_VALUE, 1L << 31}) {
            rig.m.number(3);
            rig.m.number(v);
            rig.tell(8, 8).kinds("ri").step("mov", 0);
            rig.register("number", 3, v);
        }
        Due.about("7: there is one number for all operands");
        rig.put(3, 6).tell(8, 8).kinds("ri");
        rig.m.number(7);
        rig.step("told behind the operand", 0);
        rig.register("number", 3, 7);
    }

    private static void lengthsOfSteps() {
        Due.about("8: of a length 1 .. 15");
        for (int length : new int[] {LEAST, -15, -1, 0, 1, 2, 14, 15, 16, 17, 256 + 1, MOST}) {
            boolean fits = length >= 1 && length <= 15;
            FlagMachine m = new FlagMachine();
            Due.equal("step(" + length + ")", m.step(length), fits ? 0 : -1);
            Due.equal("IP by " + length, m.register(16), 0x400000L + (fits ? length : 0));
            Due.equal("steps by " + length, m.register(19), fits ? 1 : 0);
        }
    }

    private static void refusedSteps() {
        Due.about("8: NONE: it is not sound; nothing changes");
        Rig rig = busy();
        rig.tell(0, 8).stops("no operands", -1, 0x1234);
        rig.tell(0, 2).kinds("rr").stops("size 2", -1, 0x1234);
        rig.when(0, 8, 1).kinds("rr").stops("a condition", -1, 0x1234);
        rig.tell(54, 0).stops("op 54", -1, 0x1234);
        Due.about("8: NONE: the length is not so; nothing changes");
        rig.put(0, 60).tell(42, 0);
        long[] before = rig.picture();
        for (int length : new int[] {0, 16, -1, LEAST, MOST}) {
            Due.equal("length " + length, rig.m.step(length), -1);
        }
        rig.same("lengths", before);
        Due.equal("value", rig.m.value(), 0x1234);
        Due.about("8: NONE: the program has ended; nothing changes");
        rig.step("end", 1);
        Due.equal("value", rig.m.value(), 77);
        rig.stops("the same", -1, 77);
        rig.tell(39, 0).stops("nothing", -1, 77);
        rig.tell(41, 0).stops("op 41", -1, 77);
        rig.tell(40, 0).stops("op 40", -1, 77);
        rig.tell(8, 8).kinds("rm").stops("a stop", -1, 77);
        Due.yes("set", rig.m.set(16, 5));
        Due.yes("input", rig.m.input(1, 1));
        Due.yes("poke", rig.m.poke(TOP - 1, 1));
        rig.tell(39, 0).stops("still", -1, 77);
    }

    private static void valuesOfStops() {
        Due.about("9: The value of the STOP of the latest step that was sound; 0 if it had none, or there was none");
        Rig rig = new Rig();
        Due.equal("there was none", rig.m.value(), 0);
        rig.tell(54, 0).step("not sound", -1);
        Due.equal("there was none that was sound", rig.m.value(), 0);
        rig.put(5, -9).tell(8, 8).kinds("rm").m.memory(5, -1, 1, 0);
        rig.step("STOP 3", 3);
        Due.equal("STOP 3", rig.m.value(), -9);
        rig.tell(39, 0).step("no STOP", 0);
        Due.equal("it had none", rig.m.value(), 0);
        int[][] stops = {{41, 0, 2}, {40, 0, 6}, {19, 8, 5}};
        for (int[] row : stops) {
            rig.tell(8, 8).kinds("rm").step("STOP 3", 3);
            Due.equal("STOP 3", rig.m.value(), -9);
            rig.tell(row[0], row[1]).kinds(row[1] == 0 ? "n" : "r").put(3, 0).step("STOP " + row[2], row[2]);
            Due.equal("STOP " + row[2], rig.m.value(), 0);
        }
        rig.tell(8, 8).kinds("rm").step("STOP 3", 3);
        rig.tell(8, 2).kinds("rr").step("not sound", -1);
        Due.equal("the latest that was sound", rig.m.value(), -9);
        rig.put(5, 6).tell(8, 8).kinds("rm").step("STOP 3", 3);
        Due.equal("the latest", rig.m.value(), 6);
        Due.no("a refused begin", rig.m.begin(1, 2, 2, 2, 2, 2));
        Due.equal("the latest", rig.m.value(), 6);
        Due.yes("begin", rig.m.begin(0, 0, 0, 0, 0, 0));
        Due.equal("there was none since", rig.m.value(), 0);
    }

    private static void registers() {
        Due.about("10: Register k; 16: IP; 17: the flags as r11 gets them; 18: the BREAK; 0 for another k");
        Rig rig = new Rig();
        for (int k = 0; k <= 16; k++) {
            rig.put(k, 1L << 40 | k + 1);
        }
        for (int k = 0; k <= 16; k++) {
            rig.register("each its own", k, 1L << 40 | k + 1);
        }
        for (int set = 0; set < 32; set++) {
            rig.setFlags(Rig.flagsOf(set));
            rig.register("flags", 17, 2 + Rig.flagsOf(set));
        }
        rig.register("BREAK", 18, IMAGE);
        rig.put(0, 12).put(7, IMAGE + 65536).tell(42, 0).step("break", 0);
        rig.register("BREAK", 18, IMAGE + 65536);
        for (int k : new int[] {LEAST, -2, -1, 20, 21, 32, 256, 65536, MOST}) {
            rig.register("another", k, 0);
        }
    }

    private static void steps() {
        Due.about("10: 19: steps that were done since begin() (with STOP 1 and 6, too, not those with 2, 3, 5)");
        Rig rig = new Rig();
        rig.register("none", 19, 0);
        rig.tell(39, 0).step("39", 0);
        rig.register("one", 19, 1);
        rig.tell(40, 0).step("STOP 6", 6);
        rig.register("STOP 6", 19, 2);
        rig.tell(41, 0).step("STOP 2", 2);
        rig.register("STOP 2", 19, 2);
        rig.put(5, 0).tell(8, 8).kinds("rm").m.memory(5, -1, 1, 0);
        rig.step("STOP 3", 3);
        rig.register("STOP 3", 19, 2);
        rig.put(3, 0).tell(19, 4).kinds("r").step("STOP 5", 5);
        rig.register("STOP 5", 19, 2);
        rig.tell(54, 0).step("not sound", -1);
        Due.equal("length 0", rig.tell(39, 0).m.step(0), -1);
        rig.register("refused", 19, 2);
        rig.put(1, 0).tell(52, 1).step("52 with rcx 0", 0);
        rig.register("52 with rcx 0", 19, 3);
        rig.put(1, 2).put(7, TOP - 8).tell(53, 1).step("53", 0);
        rig.register("53 where IP stays", 19, 4);
        rig.put(0, 60).tell(42, 0).step("STOP 1", 1);
        rig.register("STOP 1", 19, 5);
        rig.step("ended", -1);
        rig.register("ended", 19, 5);
        Due.no("set", rig.m.set(19, 9));
        rig.register("set", 19, 5);
        Due.yes("begin", rig.m.begin(0, 0, 0, 0, 0, 0));
        rig.register("since begin()", 19, 0);
    }

    private static void sets() {
        Due.about("11: Register k (0 .. 15), or IP (16), becomes v: true; else false");
        for (int k : new int[] {LEAST, -17, -2, -1, 17, 18, 19, 20, 32, 256, MOST}) {
            Rig rig = busy();
            long[] before = rig.picture();
            Due.no("set " + k, rig.m.set(k, 5));
            rig.same("set " + k, before);
        }
        for (long v : new long[] {0, -1, Long.MIN_VALUE, Long.MAX_VALUE, 1L << 32}) {
            for (int k = 0; k <= 16; k++) {
                Rig rig = busy();
                long[] before = rig.picture();
                Due.yes("set " + k, rig.m.set(k, v));
                before[k] = v;
                rig.same("set " + k, before);
                Due.equal("value stays", rig.m.value(), 0x1234);
            }
        }
    }

    private static long readAll(Rig rig) {
        rig.put(0, 0).put(6, TOP - 8192).put(2, 8192).tell(42, 0).step("read", 0);
        return rig.m.register(0);
    }

    private static void inputs() {
        Due.about("12: The n lowest bytes of word, the highest first, are appended to INPUT");
        for (int n = 1; n <= 8; n++) {
            Rig rig = new Rig();
            Due.yes("first", rig.m.input(0xaabb, 2));
            Due.yes("input of " + n, rig.m.input(WORD, n));
            Due.equal("how many", readAll(rig), 2 + n);
            Due.equal("the first", rig.m.peek(TOP - 8192), 0xaa);
            Due.equal("the second", rig.m.peek(TOP - 8191), 0xbb);
            for (int i = 0; i < n; i++) {
                Due.equal("byte " + i + " of " + n, rig.m.peek(TOP - 8190 + i), 0x11 * (n - i));
            }
        }
        Due.about("12: (n 1 .. 8: true; else false");
        for (int n : new int[] {LEAST, -8, -1, 0, 9, 10, 256 + 1, 65536, 65537, MOST}) {
            Rig rig = new Rig();
            Due.no("input of " + n, rig.m.input(WORD, n));
            Due.equal("nothing was appended", readAll(rig), 0);
        }
    }

    /** Beyond an object's 512 calls, as INPUT can't be full ahead of them: the class keeps the bound none the less. */
    private static void fullInput() {
        Due.about("12: 65536 at most");
        Rig rig = new Rig();
        for (int i = 0; i < 8191; i++) {
            Due.yes("input", rig.m.input(i, 8));
        }
        Due.yes("7 more", rig.m.input(WORD, 7));
        for (int n = 2; n <= 8; n++) {
            Due.no("1 too many, or more", rig.m.input(WORD, n));
        }
        Due.yes("the last one", rig.m.input(0x99, 1));
        for (int n = 1; n <= 8; n++) {
            Due.no("full", rig.m.input(WORD, n));
        }
        for (int i = 0; i < 8; i++) {
            rig.put(0, 0).put(6, TOP - 8192).put(2, 8192).tell(42, 0).step("read", 0);
            rig.register("read", 0, 8192);
            Due.yes("room again", rig.m.input(0x77, 1));
        }
        Due.equal("the last of those that filled it", rig.m.peek(TOP - 1), 0x99);
        Due.equal("the one ahead of it", rig.m.peek(TOP - 2), 0x11);
        Due.equal("what came later", readAll(rig), 8);
        Due.equal("what came later", rig.m.peek(TOP - 8192), 0x77);
    }

    private static void outputs() {
        Due.about("13: Byte i of OUTPUT, for i = -1 how many it has; NONE if there is none");
        Rig rig = new Rig();
        for (int i : new int[] {LEAST, -2, 0, 1, MOST}) {
            Due.equal("empty, byte " + i, rig.m.output(i), -1);
        }
        Due.equal("empty", rig.m.output(-1), 0);
        rig.poke(TOP - 3, 1, 0);
        rig.poke(TOP - 2, 1, 128);
        rig.poke(TOP - 1, 1, 255);
        rig.put(0, 1).put(6, TOP - 3).put(2, 3).tell(42, 0).step("write", 0);
        int[][] rows = {{LEAST, -1}, {-3, -1}, {-2, -1}, {-1, 3}, {0, 0}, {1, 128}, {2, 255}, {3, -1}, {4, -1}, {255, -1}, {65535, -1}, {65536, -1}, {MOST, -1}};
        for (int[] row : rows) {
            Due.equal("byte " + row[0], rig.m.output(row[0]), row[1]);
        }
        rig.poke(TOP - 1, 1, 1);
        Due.equal("what is out stays", rig.m.output(2), 255);
    }

    private static void peeks() {
        Due.about("14: The byte at an address; NONE if it may not be read");
        FlagMachine m = busy().m;
        long[][] rows = {{IMAGE - 1, -1}, {IMAGE, 0x11}, {IMAGE + 7, 0x88}, {IMAGE + 31, 0}, {IMAGE + 32, -1}, {IMAGE + 63, -1}, {IMAGE + 64, 5},
            {IMAGE + 1024, 5}, {IMAGE + 1025, 0x22}, {IMAGE + 4095, 0}, {IMAGE + 4096, 5}, {IMAGE + 4195, 0}, {IMAGE + 4196, -1}, {TOP - 65537, -1},
            {TOP - 65536, 5}, {TOP - 1, 5}, {TOP, -1}, {0, -1}, {-1, -1}, {Long.MIN_VALUE, -1}, {Long.MAX_VALUE, -1}, {IMAGE + (1L << 32), -1},
            {TOP - 1 - (1L << 32), -1}};
        for (long[] row : rows) {
            Due.equal("peek " + row[0], m.peek(row[0]), row[1]);
        }
    }

    private static void pokes() {
        Due.about("15: The byte at an address becomes v's lowest: true");
        for (long a : new long[] {IMAGE + 64, IMAGE + 4095, IMAGE + 4096, IMAGE + 4195, TOP - 65536, TOP - 1}) {
            Rig rig = busy();
            int below = rig.m.peek(a - 1);
            int above = rig.m.peek(a + 1);
            for (int v : new int[] {0, 1, 127, 128, 255, 256, 511, -1, -128, -129, -256, LEAST, MOST}) {
                Due.yes("poke " + a, rig.m.poke(a, v));
                Due.equal("poke " + a + " of " + v, rig.m.peek(a), (v % 256 + 256) % 256);
                Due.equal("below", rig.m.peek(a - 1), below);
                Due.equal("above", rig.m.peek(a + 1), above);
            }
        }
        Due.about("15: false if it may not be written");
        for (long a : new long[] {IMAGE - 1, IMAGE, IMAGE + 15, IMAGE + 16, IMAGE + 31, IMAGE + 32, IMAGE + 63, IMAGE + 4196, TOP - 65537, TOP, 0, -1,
            Long.MIN_VALUE, Long.MAX_VALUE, IMAGE + 64 + (1L << 32), TOP - 1 - (1L << 32)}) {
            Rig rig = busy();
            long[] before = rig.picture();
            Due.no("poke " + a, rig.m.poke(a, 9));
            rig.same("poke " + a, before);
        }
    }
}
