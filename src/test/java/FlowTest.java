/** Promise 8, the stack and jumps: 29 .. 33, 40, 41, 43; promises 9, 10 and 11: value, register, set. */
public final class FlowTest {
    private static final long TOP = Rig.STACK_END;
    private static final long CELL = 0x400100L;

    public static void main(String[] args) {
        pushes();
        pops();
        jumps();
        calls();
        returns();
        frames();
        breakpointsAndRefusedOps();
        registersAndValues();
        Due.end();
    }

    private static Rig rig() {
        Rig rig = new Rig();
        rig.m.fill(0, 0x1122334455667788L);
        Due.yes("begin", rig.m.begin(4096, 0, 0, 64, 64, 4096));
        rig.someFlags(1);
        return rig;
    }

    private static void pushes() {
        Rig rig = rig();
        rig.put(3, -77).tell(29, 8).reg(0, 3).step("push", 0);
        rig.register("rsp", 4, TOP - 8);
        Due.equal("pushed", rig.word(TOP - 8, 8), -77);
        rig.tell(29, 8).num(0, Integer.MIN_VALUE).step("push", 0);
        Due.equal("a number with its sign", rig.word(TOP - 16, 8), Integer.MIN_VALUE);
        rig.tell(29, 8).at(0, 0x400000L).step("push", 0);
        Due.equal("memory", rig.word(TOP - 24, 8), 0x1122334455667788L);
        rig.tell(29, 8).reg(0, 4).step("push rsp", 0);
        Due.equal("rsp as it was", rig.word(TOP - 32, 8), TOP - 24);
        rig.m.memory(4, -1, 1, 0);
        rig.tell(29, 8).mem(0).step("push at rsp", 0);
        Due.equal("an address ahead of the step", rig.word(TOP - 40, 8), TOP - 24);
        rig.flags("flags stay", Rig.C | Rig.O | Rig.Z | Rig.P);

        rig.put(4, TOP - 65536).tell(29, 8).reg(0, 3);
        rig.stops("below the stack", 3, TOP - 65536 - 8);
        rig.put(4, TOP - 65536 + 7);
        rig.stops("half below the stack", 3, TOP - 65536 - 1);
        rig.put(4, TOP - 65536 + 8).step("the last that fits", 0);
        rig.register("rsp", 4, TOP - 65536);
        rig.put(4, 0);
        rig.stops("rsp is 0", 3, -8);
        rig.put(4, TOP + 1);
        rig.stops("half above the stack", 3, TOP - 7);
        rig.tell(29, 8).at(0, 0x1000);
        rig.stops("x is read first", 3, 0x1000);
        rig.put(4, 0x400048L).tell(29, 8).reg(0, 3).step("a stack in DATA", 0);
        rig.stops("and into RODATA", 3, 0x400038L);
    }

    private static void pops() {
        Rig rig = rig();
        rig.poke(TOP - 32, 8, 11);
        rig.poke(TOP - 24, 8, 12);
        rig.poke(TOP - 16, 8, 13);
        rig.poke(TOP - 8, 8, 14);
        rig.put(4, TOP - 32).tell(30, 8).reg(0, 3).step("pop", 0);
        rig.register("popped", 3, 11);
        rig.register("rsp", 4, TOP - 24);
        rig.m.memory(4, -1, 1, 0);
        rig.tell(30, 8).mem(0).step("pop to where rsp is then", 0);
        Due.equal("popped", rig.word(TOP - 16, 8), 12);
        rig.register("rsp", 4, TOP - 16);
        rig.m.memory(-1, 5, 8, (int) CELL);
        rig.put(5, 2).tell(30, 8).mem(0).step("pop to memory", 0);
        Due.equal("popped", rig.word(CELL + 16, 8), 12);
        rig.tell(30, 8).reg(0, 4).step("pop rsp", 0);
        rig.register("rsp is what was popped", 4, 14);
        rig.stops("nothing at rsp", 3, 14);
        rig.put(4, TOP - 4);
        rig.stops("half at rsp", 3, TOP - 4);
        rig.put(4, TOP - 8).tell(30, 8).at(0, 0x400000L);
        rig.stops("x is not writable", 3, 0x400000L);
        rig.m.memory(4, -1, 1, 0);
        rig.tell(30, 8).mem(0);
        rig.stops("x is at the grown rsp", 3, TOP);
        rig.m.memory(4, -1, 1, -8);
        rig.step("x at the grown rsp less 8", 0);
        rig.register("rsp", 4, TOP);
        rig.put(16, CELL - 3).put(4, TOP - 8).m.memory(16, -1, 1, 0);
        rig.step("pop at the next address", 0);
        Due.equal("popped", rig.word(CELL, 8), 14);
        rig.put(4, 0x400000L).tell(30, 8).reg(0, 3).step("pop from RODATA", 0);
        rig.register("popped", 3, 0x1122334455667788L);
        rig.flags("flags stay", Rig.C | Rig.O | Rig.Z | Rig.P);
    }

    private static void jumps() {
        Rig rig = rig();
        rig.put(16, 100).tell(31, 0).num(0, 50).step("jump", 0);
        rig.register("forth", 16, 153);
        rig.tell(31, 0).num(0, -200).step("jump", 0);
        rig.register("back", 16, -44);
        rig.put(3, Long.MIN_VALUE).tell(31, 0).reg(0, 3).step("jump", 0);
        rig.register("to a register", 16, Long.MIN_VALUE);
        rig.tell(31, 0).at(0, 0x400000L).step("jump", 0);
        rig.register("to what is in memory", 16, 0x1122334455667788L);
        rig.tell(31, 0).at(0, 0x400ff9L);
        rig.stops("half in memory", 3, 0x400ff9L);
        rig.put(16, Long.MAX_VALUE).tell(39, 0).step("nothing", 0);
        rig.register("IP goes round", 16, Long.MIN_VALUE + 2);
    }

    private static void calls() {
        Rig rig = rig();
        rig.put(16, 100).tell(32, 0).num(0, -50).step("call", 0);
        rig.register("IP", 16, 53);
        rig.register("rsp", 4, TOP - 8);
        Due.equal("pushed", rig.word(TOP - 8, 8), 103);
        rig.tell(32, 0).reg(0, 4).step("call rsp", 0);
        rig.register("rsp as it was", 16, TOP - 8);
        rig.m.memory(4, -1, 1, 8);
        rig.tell(32, 0).mem(0).step("call at rsp + 8", 0);
        rig.register("as it was ahead of the step", 16, 103);
        rig.put(4, 4096);
        rig.tell(32, 0).at(0, 0x1000);
        rig.stops("x is read first", 3, 0x1000);
        rig.tell(32, 0).num(0, 5);
        rig.stops("no stack", 3, 4088);
    }

    private static void returns() {
        Rig rig = rig();
        rig.poke(TOP - 16, 8, -9);
        rig.poke(TOP - 8, 8, 900);
        rig.put(4, TOP - 16).tell(33, 0).step("return", 0);
        rig.register("IP", 16, -9);
        rig.register("rsp", 4, TOP - 8);
        rig.tell(33, 0).num(0, 65535).step("return", 0);
        rig.register("IP", 16, 900);
        rig.register("rsp", 4, TOP + 65535);
        rig.stops("nothing there", 3, TOP + 65535);
        rig.put(4, TOP - 7);
        rig.stops("half there", 3, TOP - 7);
        rig.put(4, TOP - 8).num(0, 0).step("by 0", 0);
        rig.register("rsp", 4, TOP);
        rig.tell(33, 0);
        Due.yes("y", rig.m.operand(1, 3, 0));
        rig.stops("a second operand", -1, 0);
    }

    private static void frames() {
        Rig rig = rig();
        rig.poke(TOP - 64, 8, 77);
        rig.put(5, TOP - 64).put(4, 5).tell(43, 0).step("leave", 0);
        rig.register("rsp", 4, TOP - 56);
        rig.register("rbp", 5, 77);
        rig.stops("nothing at rbp", 3, 77);
        rig.flags("flags stay", Rig.C | Rig.O | Rig.Z | Rig.P);
    }

    private static void breakpointsAndRefusedOps() {
        Rig rig = rig();
        long steps = rig.m.register(19);
        rig.tell(8, 8).reg(0, 3).at(1, 0x1000).step("not readable", 3);
        Due.equal("value", rig.m.value(), 0x1000);
        rig.tell(41, 0);
        rig.stops("op 41", 2, 0);
        rig.tell(40, 0).step("op 40", 6);
        Due.equal("value", rig.m.value(), 0);
        rig.register("IP behind op 40", 16, 0x400003L);
        rig.register("steps", 19, steps + 1);
        rig.tell(39, 0).step("goes on", 0);
        rig.register("steps", 19, steps + 2);
    }

    private static void registersAndValues() {
        FlagMachine m = new FlagMachine();
        for (int k = 0; k <= 16; k++) {
            Due.yes("set " + k, m.set(k, -1000 - k));
        }
        for (int k = 0; k <= 16; k++) {
            Due.equal("register " + k, m.register(k), -1000 - k);
        }
        for (int k : new int[] {-1, 17, 18, 19, 20, Integer.MAX_VALUE, Integer.MIN_VALUE}) {
            Due.no("set " + k, m.set(k, 5));
        }
        for (int k : new int[] {-1, 20, 21, Integer.MAX_VALUE, Integer.MIN_VALUE}) {
            Due.equal("register " + k, m.register(k), 0);
        }
        Due.equal("flags", m.register(17), 2);
        Due.equal("BREAK", m.register(18), 0x400000L);
        Due.equal("steps", m.register(19), 0);
        Due.equal("value", m.value(), 0);
        Due.equal("register 3", m.register(3), -1003);
    }
}
