/** 'Terms', op 42, with INPUT, OUTPUT and the BREAK: sentence by sentence, where they are empty, full or at an end. */
public final class EdgesOfServicesTest {
    private static final long IMAGE = Rig.IMAGE;
    private static final long DATA = IMAGE + 256;
    private static final long HEAP = IMAGE + 4096;
    private static final long TOP = Rig.STACK_END;

    public static void main(String[] args) {
        nextAddressAndFlags();
        byRax();
        inputIsEmpty();
        atMostRdx();
        takenOff();
        mayNotBeWritten();
        outputGrows();
        mayNotBeRead();
        outputIsFull();
        raxAloneChanges();
        endsOfTheBreak();
        bytesBehindTheBreak();
        breakLeavesAllElse();
        theEnd();
        Due.end();
    }

    /** TEXT 0 .. 32, RODATA 64 .. 128, DATA 256 .. 4096, the HEAP right behind it. */
    private static Rig rig() {
        Rig rig = new Rig();
        for (int i = 0; i < 128; i += 8) {
            rig.m.fill(i, 0x0807060504030201L + i * 0x0101010101010101L);
        }
        Due.yes("begin", rig.m.begin(4096, 32, 64, 128, 256, 4096));
        return rig;
    }

    private static void nextAddressAndFlags() {
        Due.about("42 syscall: rcx becomes the next address");
        for (long ip : new long[] {0, IMAGE, -3, -2, Long.MAX_VALUE, Long.MIN_VALUE}) {
            for (long rax : new long[] {0, 1, 12, 99}) {
                Rig rig = rig().put(16, ip).put(0, rax).tell(42, 0);
                rig.step("syscall " + rax, 0);
                rig.register("rcx of syscall " + rax, 1, ip + 3);
                rig.register("IP of syscall " + rax, 16, ip + 3);
            }
        }
        Due.about("r11 2 + C + 4 P + 64 Z + 128 S + 2048 O");
        for (int set = 0; set < 32; set++) {
            for (long rax : new long[] {0, 1, 12, 99}) {
                Rig rig = rig();
                rig.setFlags(Rig.flagsOf(set));
                rig.put(11, -1).put(0, rax).tell(42, 0).step("syscall " + rax, 0);
                rig.register("r11 of syscall " + rax, 11, 2 + Rig.flagsOf(set));
                rig.flags("flags of syscall " + rax, Rig.flagsOf(set));
            }
        }
    }

    private static void byRax() {
        Due.about("Else rax is -38");
        for (long rax : new long[] {-1, 2, 3, 11, 13, 59, 61, 255, 256, 1L << 32, (1L << 32) + 1, (1L << 32) + 12, (1L << 32) + 60,
            Long.MIN_VALUE, Long.MIN_VALUE + 1, Long.MAX_VALUE, -38, 256 + 60, 65536 + 12}) {
            Rig rig = rig();
            Due.yes("input", rig.m.input(7, 1));
            rig.syscall("rax " + rax, rax, HEAP + 8, DATA, 1, -38);
            rig.register("BREAK", 18, HEAP);
            Due.equal("OUTPUT", rig.m.output(-1), 0);
            Due.equal("memory", rig.m.peek(DATA), 0);
        }
    }

    private static void inputIsEmpty() {
        Due.about("0: the first bytes of INPUT: none where it is empty");
        for (long rsi : new long[] {DATA, 0, IMAGE, TOP, -1, Long.MIN_VALUE}) {
            for (long rdx : new long[] {0, 1, 8, 65536, -1, Long.MIN_VALUE}) {
                rig().syscall("rsi " + rsi + " rdx " + rdx, 0, 0, rsi, rdx, 0);
            }
        }
        Rig rig = rig();
        Due.yes("input", rig.m.input(0x0102, 2));
        rig.syscall("all", 0, 0, DATA, 2, 2);
        rig.syscall("empty again", 0, 0, 0, 2, 0);
        Due.no("a refused input", rig.m.input(5, 0));
        rig.syscall("still empty", 0, 0, 0, 2, 0);
    }

    private static void atMostRdx() {
        Due.about("at most rdx (without a sign)");
        long[][] rows = {{0, 0}, {1, 1}, {4, 4}, {5, 5}, {6, 5}, {7, 5}, {65536, 5}, {-1, 5}, {Long.MIN_VALUE, 5}, {Long.MAX_VALUE, 5},
            {1L << 32, 5}, {(1L << 32) + 1, 5}, {-5, 5}};
        for (long[] row : rows) {
            Rig rig = rig();
            Due.yes("input", rig.m.input(0x1112131415L, 5));
            rig.syscall("rdx " + row[0], 0, 0, DATA, row[0], row[1]);
            for (int i = 0; i < 6; i++) {
                Due.equal("byte " + i + " by rdx " + row[0], rig.m.peek(DATA + i), i < row[1] ? 0x11 + i : 0);
            }
            rig.syscall("the rest", 0, 0, DATA, 9, 5 - row[1]);
            rig.register("rdx stays", 2, 9);
            rig.register("rsi stays", 6, DATA);
        }
        rig().syscall("rdx 0 asks for no right", 0, 0, 0, 0, 0);
        Rig rig = rig();
        Due.yes("input", rig.m.input(1, 1));
        rig.syscall("rdx 0 asks for no right", 0, 0, 0, 0, 0);
    }

    private static void takenOff() {
        Due.about("go to rsi and on and are taken off it");
        Rig rig = rig();
        Due.yes("input", rig.m.input(0xa1a2a3a4a5a6a7a8L, 8));
        for (int i = 1; i <= 8; i++) {
            rig.syscall("one by one", 0, 0, DATA, 1, 1);
            Due.equal("byte " + i, rig.m.peek(DATA), 0xa0 + i);
        }
        for (int n = 1; n <= 8; n++) {
            Due.yes("input", rig.m.input(0xb1b2b3b4b5b6b7b8L, n));
        }
        rig.syscall("all", 0, 0, TOP - 36, 99, 36);
        int at = 0;
        for (int n = 1; n <= 8; n++) {
            for (int i = 8 - n; i < 8; i++) {
                Due.equal("byte " + at, rig.m.peek(TOP - 36 + at), 0xb1 + i);
                at++;
            }
        }
    }

    private static void mayNotBeWritten() {
        Due.about("-14 if one of these bytes may not be written");
        long[] wrong = {0, IMAGE, IMAGE + 64, DATA - 1, DATA - 4, HEAP - 1, HEAP - 3, HEAP, TOP - 3, TOP - 1, TOP, Rig.STACK - 1, -1, -4, Long.MAX_VALUE, Long.MIN_VALUE};
        for (long rsi : wrong) {
            Rig rig = rig();
            Due.yes("input", rig.m.input(0x11121314, 4));
            rig.syscall("rsi " + rsi, 0, 0, rsi, 4, -14);
            rig.syscall("nothing was taken off", 0, 0, DATA + 64, 9, 4);
            Due.equal("nothing was taken off", rig.word(DATA + 64, 4), 0x14131211);
            for (long a = rsi - 4; a < rsi + 8; a++) {
                Due.yes("no byte went to " + a, a < DATA || rig.m.peek(a) <= 0);
            }
        }
        long[] right = {DATA, HEAP - 4, TOP - 4, Rig.STACK};
        for (long rsi : right) {
            Rig rig = rig();
            Due.yes("input", rig.m.input(0x11121314, 4));
            rig.syscall("rsi " + rsi, 0, 0, rsi, 4, 4);
        }
        // Only as many bytes as INPUT has must be writable.
        Rig rig = rig();
        Due.yes("input", rig.m.input(0x11, 1));
        rig.syscall("one byte, rdx 100", 0, 0, HEAP - 1, 100, 1);
        rig = rig();
        Due.yes("input", rig.m.input(0x1122, 2));
        rig.syscall("two bytes, rdx 100", 0, 0, HEAP - 1, 100, -14);
        rig.syscall("two bytes, rdx 1", 0, 0, HEAP - 1, 1, 1);
    }

    private static void outputGrows() {
        Due.about("1: rdx bytes at rsi and on are appended to OUTPUT; rax is how many");
        Rig rig = rig();
        rig.syscall("none", 1, 0, 0, 0, 0);
        Due.equal("none", rig.m.output(-1), 0);
        rig.syscall("one", 1, 0, IMAGE + 31, 1, 1);
        rig.syscall("RODATA", 1, 0, IMAGE + 64, 64, 64);
        Due.equal("how many", rig.m.output(-1), 65);
        Due.equal("the first", rig.m.output(0), rig.m.peek(IMAGE + 31));
        for (int i = 0; i < 64; i++) {
            Due.equal("byte " + i, rig.m.output(1 + i), rig.m.peek(IMAGE + 64 + i));
        }
        rig.register("rsi stays", 6, IMAGE + 64);
        rig.register("rdx stays", 2, 64);
        rig.syscall("none more", 1, 0, 0, 0, 0);
        Due.equal("how many", rig.m.output(-1), 65);
    }

    private static void mayNotBeRead() {
        Due.about("-14 if one of these bytes may not be read");
        long[] wrong = {0, IMAGE - 1, IMAGE + 29, IMAGE + 32, IMAGE + 63, IMAGE + 125, IMAGE + 128, DATA - 1, HEAP - 3, HEAP, TOP - 3, TOP,
            Rig.STACK - 1, -1, -4, Long.MAX_VALUE, Long.MIN_VALUE};
        for (long rsi : wrong) {
            Rig rig = rig();
            rig.syscall("rsi " + rsi, 1, 0, rsi, 4, -14);
            Due.equal("OUTPUT is empty", rig.m.output(-1), 0);
            Due.equal("OUTPUT is empty", rig.m.output(0), -1);
        }
        for (long rsi : new long[] {IMAGE, IMAGE + 28, IMAGE + 64, IMAGE + 124, DATA, HEAP - 4, TOP - 4, Rig.STACK}) {
            rig().syscall("rsi " + rsi, 1, 0, rsi, 4, 4);
        }
    }

    private static void outputIsFull() {
        Due.about("by 1 ahead of that, -28 if OUTPUT would have more than 65536 bytes");
        for (long rdx : new long[] {65537, 65538, 131072, 1L << 31, 1L << 32, Long.MAX_VALUE, Long.MIN_VALUE, -1}) {
            rig().syscall("rdx " + rdx, 1, 0, Rig.STACK, rdx, -28);
            rig().syscall("not readable, rdx " + rdx, 1, 0, 0, rdx, -28);
        }
        Rig rig = rig();
        rig.poke(TOP - 1, 1, 77);
        rig.poke(Rig.STACK, 1, 78);
        rig.syscall("not readable", 1, 0, TOP - 65535, 65536, -14);
        rig.syscall("all", 1, 0, Rig.STACK, 65536, 65536);
        Due.equal("how many", rig.m.output(-1), 65536);
        Due.equal("the first", rig.m.output(0), 78);
        Due.equal("the last", rig.m.output(65535), 77);
        Due.equal("behind it", rig.m.output(65536), -1);
        rig.syscall("one more", 1, 0, Rig.STACK, 1, -28);
        rig.syscall("one more, not readable", 1, 0, 0, 1, -28);
        rig.syscall("none more", 1, 0, 0, 0, 0);
        Due.equal("how many", rig.m.output(-1), 65536);
        rig = rig();
        rig.syscall("all but 5", 1, 0, Rig.STACK, 65531, 65531);
        rig.syscall("6 too many", 1, 0, Rig.STACK, 6, -28);
        rig.syscall("6 not readable", 1, 0, 0, 6, -28);
        rig.syscall("5 not readable", 1, 0, 0, 5, -14);
        rig.syscall("far too many", 1, 0, Rig.STACK, -65531, -28);
        rig.syscall("5", 1, 0, IMAGE, 5, 5);
        Due.equal("how many", rig.m.output(-1), 65536);
        Due.equal("the last", rig.m.output(65535), 5);
        rig.syscall("1 more", 1, 0, Rig.STACK, 1, -28);
    }

    private static void raxAloneChanges() {
        Due.about("rax alone changes then, besides rcx and r11");
        long[][] rows = {{0, 0, 4, -14}, {0, HEAP - 2, 4, -14}, {1, 0, 4, -14}, {1, HEAP - 2, 4, -14}, {1, 0, 65537, -28}, {1, IMAGE, -1, -28}, {99, 0, 0, -38}};
        for (long[] row : rows) {
            Rig rig = rig();
            for (int k = 0; k < 16; k++) {
                rig.put(k, 1000 + k);
            }
            Due.yes("input", rig.m.input(0x11121314, 4));
            rig.put(0, row[0]).put(6, row[1]).put(2, row[2]).tell(42, 0);
            long[] before = rig.picture();
            rig.step("rax " + row[0], 0);
            before[0] = row[3];
            before[1] = before[16] + 3;
            before[11] = before[17];
            before[16] += 3;
            before[19] += 1;
            rig.same("rax " + row[0] + " rdx " + row[2], before);
        }
    }

    private static void endsOfTheBreak() {
        Due.about("12: if rdi is from the HEAP's beginning to 65536 more, the BREAK becomes that; rax is the BREAK");
        long[] wrong = {0, -1, 1, HEAP - 1, HEAP - 4096, IMAGE, HEAP + 65537, HEAP + 131072, TOP, HEAP + (1L << 32), HEAP | Long.MIN_VALUE, Long.MAX_VALUE, Long.MIN_VALUE};
        long[] right = {HEAP, HEAP + 1, HEAP + 4095, HEAP + 65535, HEAP + 65536};
        for (long rdi : wrong) {
            Rig rig = rig();
            rig.syscall("rdi " + rdi, 12, rdi, 0, 0, HEAP);
            rig.register("BREAK", 18, HEAP);
            rig.syscall("break", 12, HEAP + 100, 0, 0, HEAP + 100);
            rig.syscall("rdi " + rdi, 12, rdi, 0, 0, HEAP + 100);
            rig.register("BREAK", 18, HEAP + 100);
            Due.equal("the last byte is there", rig.m.peek(HEAP + 99), 0);
        }
        for (long rdi : right) {
            Rig rig = rig();
            rig.syscall("rdi " + rdi, 12, rdi, 0, 0, rdi);
            rig.register("BREAK", 18, rdi);
            Due.equal("behind it", rig.m.peek(rdi), -1);
            Due.equal("the last byte", rig.m.poke(rdi - 1, 9) ? 1 : 0, 1);
            rig.syscall("back to the beginning", 12, HEAP, 0, 0, HEAP);
            Due.equal("no byte is left", rig.m.peek(HEAP), -1);
        }
    }

    private static void bytesBehindTheBreak() {
        Due.about("bytes behind it are 0 when it comes back");
        for (int keep : new int[] {0, 1, 7, 255, 256, 257, 1000, 1001, 65535}) {
            for (int all : new int[] {keep, keep + 1, keep + 2, 65536}) {
                Rig rig = rig();
                rig.syscall("forth", 12, HEAP + 65536, 0, 0, HEAP + 65536);
                rig.syscall("some way", 12, HEAP + Math.min(all, 65536), 0, 0, HEAP + Math.min(all, 65536));
                long end = rig.m.register(18);
                for (long a = Math.max(HEAP, end - 300); a < end; a++) {
                    Due.yes("poke", rig.m.poke(a, 7));
                }
                for (long a = HEAP + Math.max(0, keep - 300); a < Math.min(end, HEAP + keep + 300); a++) {
                    Due.yes("poke", rig.m.poke(a, 7));
                }
                rig.syscall("back", 12, HEAP + keep, 0, 0, HEAP + keep);
                Due.equal("gone", rig.m.peek(HEAP + keep), -1);
                rig.syscall("forth again", 12, end, 0, 0, end);
                for (long a = HEAP + Math.max(0, keep - 300); a < end; a++) {
                    Due.equal("keep " + keep + " of " + all + ", byte " + (a - HEAP), rig.m.peek(a), a < HEAP + keep ? 7 : 0);
                }
            }
        }
    }

    private static void breakLeavesAllElse() {
        Due.about("12: the BREAK becomes that, nothing else");
        Rig rig = new Rig();
        Due.yes("begin", rig.m.begin(262144, 0, 0, 0, 0, 262144));
        long heap = IMAGE + 262144;
        for (long a : new long[] {IMAGE, heap - 1, Rig.STACK, TOP - 1}) {
            Due.yes("poke", rig.m.poke(a, 9));
        }
        for (long rdi : new long[] {heap + 65536, heap, heap + 1, heap + 65536, heap + 65535, heap}) {
            rig.syscall("break", 12, rdi, 0, 0, rdi);
            for (long a : new long[] {IMAGE, heap - 1, Rig.STACK, TOP - 1}) {
                Due.equal("byte at " + a, rig.m.peek(a), 9);
            }
        }
    }

    private static void theEnd() {
        Due.about("60: STOP 1, with the value rdi");
        for (long rdi : new long[] {0, 1, -1, 255, 256, 1L << 32, Long.MIN_VALUE, Long.MAX_VALUE}) {
            Rig rig = rig();
            rig.setFlags(Rig.S | Rig.O);
            long steps = rig.m.register(19);
            rig.put(16, -3).put(0, 60).put(7, rdi).tell(42, 0).step("60", 1);
            Due.equal("value", rig.m.value(), rdi);
            rig.register("rax", 0, 60);
            rig.register("rdi", 7, rdi);
            rig.register("rcx", 1, 0);
            rig.register("r11", 11, 2 + Rig.S + Rig.O);
            Due.about("STOP 1: the program has ended; behind it IP is the next one's");
            rig.register("IP", 16, 0);
            rig.register("steps", 19, steps + 1);
            rig.stops("no step more", -1, rdi);
        }
    }
}
