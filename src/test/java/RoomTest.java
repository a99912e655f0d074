import java.lang.management.ManagementFactory;

/** Promises 1 to 15: what the calls make stays far inside the room that all of a run's calls share. */
public final class RoomTest {
    private static final com.sun.management.ThreadMXBean THREADS =
        (com.sun.management.ThreadMXBean) ManagementFactory.getThreadMXBean();

    public static void main(String[] args) {
        newObjects();
        writesFarApart();
        beginsAfterFills();
        wholeOutputs();
        Due.end();
    }

    private static long made() {
        return THREADS.getThreadAllocatedBytes(Thread.currentThread().getId());
    }

    private static void atMost(String what, long before, long most) {
        long bytes = made() - before;
        Due.yes(what + " made " + bytes + " bytes, at most " + most, bytes <= most);
    }

    private static void newObjects() {
        FlagMachine last = null;
        long before = made();
        for (int i = 0; i < 512; i++) {
            last = new FlagMachine();
        }
        atMost("512 new objects", before, 512L * 32000);
        Due.equal("the last one", last.step(1), 0);
    }

    private static void writesFarApart() {
        FlagMachine m = new FlagMachine();
        m.begin(262144, 0, 0, 0, 0, 262144);
        m.op(8, 8, 0);
        m.operand(0, 2, 0);
        m.operand(1, 3, 0);
        m.number(-1);
        m.memory(0, -1, 1, 0x4000ff);
        long before = made();
        for (int i = 0; i < 255; i++) {
            m.set(0, i * 1024L);
            m.step(8);
        }
        atMost("255 writes far apart", before, 200000);
    }

    private static void beginsAfterFills() {
        FlagMachine m = new FlagMachine();
        for (int i = 0; i < 100; i++) {
            m.fill(i * 2048, -1L);
        }
        long before = made();
        for (int i = 0; i < 400; i++) {
            m.begin(262144, 0, 0, 0, 0, 262144);
        }
        atMost("400 begins", before, 60000);
    }

    private static void wholeOutputs() {
        FlagMachine m = new FlagMachine();
        for (int i = 0; i < 256; i++) {
            m.fill(i * 256, -1L);
        }
        long before = made();
        for (int i = 0; i < 40; i++) {
            m.begin(65536, 65536, 65536, 65536, 65536, 65536);
            m.op(42, 0, 0);
            m.set(0, 1);
            m.set(6, 0x400000L);
            m.set(2, 65536);
            m.step(2);
            Due.equal("output", m.output(-1), 65536);
        }
        atMost("40 whole outputs", before, 400000);
    }
}
