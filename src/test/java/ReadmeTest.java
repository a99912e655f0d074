import java.io.IOException;
import java.nio.file.Files;
import java.nio.file.Path;

/** The examples of README.md: each of its lines stands here, with the answers that it tells. */
public final class ReadmeTest {
    public static void main(String[] args) throws IOException {
        FlagMachine m = new FlagMachine();
        addsFromMemory(m);
        servesAndEnds(m);
        linesStandHere();
        Due.end();
    }

    private static void addsFromMemory(FlagMachine m) {
        m.fill(0, 0x1122334455667788L);
        Due.yes("begin", m.begin(4096, 1024, 1024, 2048, 2048, 4096));
        Due.yes("set", m.set(3, 5));
        m.op(0, 8, 0);
        Due.yes("x", m.operand(0, 1, 3));
        Due.yes("y", m.operand(1, 2, 0));
        m.memory(-1, -1, 1, 0x400000);
        int stop = m.step(7);
        long rbx = m.register(3);
        long flags = m.register(17);
        Due.equal("stop", stop, 0);
        Due.equal("rbx", rbx, 0x112233445566778dL);
        Due.equal("flags", flags, 6);
    }

    private static void servesAndEnds(FlagMachine m) {
        Due.yes("input", m.input(0x6869L, 2));
        m.op(42, 0, 0);
        Due.yes("rax", m.set(0, 0));
        Due.yes("rsi", m.set(6, 0x400800L));
        Due.yes("rdx", m.set(2, 100));
        Due.equal("take", m.step(2), 0);
        Due.equal("how many came", m.register(0), 2);
        Due.yes("rax", m.set(0, 1));
        Due.yes("rdx", m.set(2, 2));
        Due.equal("give", m.step(2), 0);
        Due.equal("how many went", m.register(0), 2);
        int first = m.output(0);
        Due.equal("the first byte", first, 'h');
        Due.equal("how many there are", m.output(-1), 2);
        Due.yes("rax", m.set(0, 60));
        Due.yes("rdi", m.set(7, 9));
        Due.equal("the end", m.step(2), 1);
        Due.equal("its value", m.value(), 9);
        Due.equal("behind the end", m.step(2), FlagMachine.NONE);
    }

    /** An example that is altered in README.md alone would no longer be tested. */
    private static void linesStandHere() throws IOException {
        String here = Files.readString(Path.of("src/test/java/ReadmeTest.java"));
        boolean inside = false;
        for (String line : Files.readAllLines(Path.of("README.md"))) {
            if (line.startsWith("```")) {
                inside = line.equals("```java");
            } else if (inside && !line.isBlank()) {
                String call = line.replaceAll(";.*", "");
                Due.yes("README.md's line stands here: " + call, here.contains(call));
            }
        }
    }
}
