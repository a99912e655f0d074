import java.util.Arrays;

/**
 * A machine of 64 bits that does instructions which are told by fields: sixteen registers, five
 * flags, a memory of parts with rights, and services for bytes that come in and go out.
 */
public final class FlagMachine {
    public static final int NONE = -1;

    private static final int NOTHING = 0;
    private static final int REGISTER = 1;
    private static final int MEMORY = 2;
    private static final int NUMBER = 3;

    private static final int RAX = 0;
    private static final int RCX = 1;
    private static final int RDX = 2;
    private static final int RSP = 4;
    private static final int RBP = 5;
    private static final int RSI = 6;
    private static final int RDI = 7;
    private static final int R11 = 11;

    private static final int STOP_END = 1;
    private static final int STOP_REFUSED_OP = 2;
    private static final int STOP_RIGHTS = 3;
    private static final int STOP_DIVISION = 5;
    private static final int STOP_BREAKPOINT = 6;

    private static final int MAX_IMAGE = 262144;
    private static final int MAX_HEAP = 65536;
    private static final int STACK_BYTES = 65536;
    private static final int MAX_PORT = 65536;
    private static final long IMAGE_START = 0x400000L;
    private static final long STACK_END = 0x7ffff000L;
    private static final int PAGE_BYTES = 256;
    private static final int READING = 0;
    private static final int WRITING = 1;

    private final Instruction hand;
    private final Stretch filled;
    private final Core core;
    private final Sums sums;
    private final Products products;
    private final Bits bits;
    private final Moves moves;
    private final Services services;
    private boolean ended;
    private long steps;

    public FlagMachine() {
        hand = new Instruction();
        filled = new Stretch(MAX_IMAGE);
        core = new Core(hand);
        sums = new Sums(core);
        products = new Products(core);
        bits = new Bits(core);
        moves = new Moves(core);
        services = new Services(core);
        begin(0, 0, 0, 0, 0, 0);
    }

    public boolean begin(int image, int text, int rodata, int rodataEnd, int data, int dataEnd) {
        boolean rising = 0 <= text && text <= rodata && rodata <= rodataEnd && rodataEnd <= data && data <= dataEnd;
        if (!rising || dataEnd > image || image > MAX_IMAGE) {
            return false;
        }
        core.memory.layRows(image, text, rodata, rodataEnd, data, dataEnd);
        core.memory.loadImage(filled, image);
        core.startAnew();
        services.startAnew();
        ended = false;
        steps = 0;
        return true;
    }

    public void fill(int place, long v) {
        for (int i = 0; i < 8; i++) {
            // A place near the largest int must not come round to the beginning.
            long at = (long) place + i;
            if (at >= 0 && at < MAX_IMAGE) {
                filled.putByte((int) at, (int) (v >>> (8 * i)) & 255);
            }
        }
    }

    public void op(int op, int size, int condition) {
        hand.op = op;
        hand.size = size;
        hand.condition = condition;
        for (int k = 0; k < 3; k++) {
            hand.kinds[k] = NOTHING;
            hand.registers[k] = 0;
        }
    }

    public boolean operand(int k, int kind, int register) {
        if (k < 0 || k > 2 || kind < NOTHING || kind > NUMBER) {
            return false;
        }
        if (register < 0 || register > 15 || (kind != REGISTER && register != 0)) {
            return false;
        }
        hand.kinds[k] = kind;
        hand.registers[k] = register;
        return true;
    }

    public void memory(int base, int index, int scale, int displacement) {
        hand.base = base;
        hand.index = index;
        hand.scale = scale;
        hand.displacement = displacement;
    }

    public void number(long v) {
        hand.number = v;
    }

    public int step(int length) {
        if (ended || length < 1 || length > 15 || !hand.isSound()) {
            return NONE;
        }
        core.prepare(length);
        switch (hand.op) {
            case 0: case 1: case 2: case 3: case 4: case 5: case 6: case 7: case 9:
            case 15: case 16: case 21: case 22: case 48:
                sums.perform(hand.op);
                break;
            case 49:
                sums.compareAndExchange();
                break;
            case 17: case 18: case 19: case 20: case 23: case 37: case 38:
                products.perform(hand.op);
                break;
            case 24: case 25: case 26: case 27: case 28: case 44: case 45: case 46: case 47:
                bits.perform(hand.op);
                break;
            case 39:
                break;
            case 40:
                core.stopWith(STOP_BREAKPOINT, 0);
                break;
            case 41:
                core.stopWith(STOP_REFUSED_OP, 0);
                break;
            case 42:
                services.serve();
                break;
            default:
                moves.perform(hand.op);
                break;
        }
        return finish(core.stop);
    }

    public long value() {
        return core.stopValue;
    }

    public long register(int k) {
        if (k >= 0 && k <= 15) {
            return core.registers[k];
        }
        switch (k) {
            case 16:
                return core.ip;
            case 17:
                return core.flags.asWord();
            case 18:
                return core.memory.breakAddress();
            case 19:
                return steps;
            default:
                return 0;
        }
    }

    public boolean set(int k, long v) {
        if (k < 0 || k > 16) {
            return false;
        }
        if (k == 16) {
            core.ip = v;
        } else {
            core.registers[k] = v;
        }
        return true;
    }

    public boolean input(long word, int n) {
        return services.appendInput(word, n);
    }

    public int output(int i) {
        return services.outputAt(i);
    }

    public int peek(long address) {
        int place = core.memory.placeFor(address, 1, READING);
        return place == NONE ? NONE : core.memory.cells.byteAt(place);
    }

    public boolean poke(long address, int v) {
        int place = core.memory.placeFor(address, 1, WRITING);
        if (place == NONE) {
            return false;
        }
        core.memory.cells.putByte(place, v & 255);
        return true;
    }

    private int finish(int stop) {
        if (stop == 0 || stop == STOP_END || stop == STOP_BREAKPOINT) {
            core.ip = core.next;
            steps++;
        }
        ended = stop == STOP_END;
        return stop;
    }

    /** The bits that a value of so many bytes has. */
    private static long maskOf(int size) {
        return size >= 8 ? -1L : (1L << (8 * size)) - 1;
    }

    /** The upper bit of a value of so many bytes. */
    private static long topOf(int size) {
        return 1L << (8 * size - 1);
    }

    /** The lowest bytes of a value, taken with their sign. */
    private static long signed(long v, int size) {
        int gap = 64 - 8 * size;
        return v << gap >> gap;
    }

    /** Whether a is below b, both without signs. */
    private static boolean below(long a, long b) {
        return (a ^ Long.MIN_VALUE) < (b ^ Long.MIN_VALUE);
    }

    /** A piece of a stretch that has been written; the chain lets a stretch visit only such pieces. */
    private static final class Page {
        final int number;
        final Page older;
        final byte[] cells = new byte[PAGE_BYTES];

        Page(int number, Page older) {
            this.number = number;
            this.older = older;
        }
    }

    /** A row of bytes, 0 at first. Pages are made when first written, so a new object stays small. */
    private static final class Stretch {
        private final Page[] pages;
        private Page newest;

        Stretch(int bytes) {
            pages = new Page[Math.max(0, bytes) / PAGE_BYTES];
        }

        int byteAt(int place) {
            Page page = pageAt(place);
            return page == null ? 0 : page.cells[place & (PAGE_BYTES - 1)] & 255;
        }

        void putByte(int place, int v) {
            Page page = v == 0 ? pageAt(place) : pageFor(place);
            if (page != null) {
                page.cells[place & (PAGE_BYTES - 1)] = (byte) v;
            }
        }

        long wordAt(int place, int n) {
            long v = 0;
            for (int i = n - 1; i >= 0; i--) {
                Page page = pageAt(place + i);
                v = v << 8 | (page == null ? 0 : page.cells[place + i & (PAGE_BYTES - 1)] & 255);
            }
            return v;
        }

        void putWord(int place, int n, long v) {
            for (int i = 0; i < n; i++) {
                Page page = pageFor(place + i);
                if (page != null) {
                    page.cells[place + i & (PAGE_BYTES - 1)] = (byte) (v >>> (8 * i));
                }
            }
        }

        void clear() {
            for (Page page = newest; page != null; page = page.older) {
                Arrays.fill(page.cells, (byte) 0);
            }
        }

        void clearFrom(int place, int n) {
            int done = 0;
            while (done < n) {
                int piece = Math.min(n - done, restOfPage(place + done));
                clearPiece(place + done, piece);
                done += piece;
            }
        }

        /** Takes over what another stretch has in its first bytes; all else becomes 0. */
        void becomeStartOf(Stretch other, int n) {
            clear();
            for (Page page = other.newest; page != null; page = page.older) {
                int place = page.number * PAGE_BYTES;
                if (place < n) {
                    copyPiece(other, place, place, Math.min(PAGE_BYTES, n - place));
                }
            }
        }

        void copyFrom(Stretch other, int from, int place, int n) {
            int done = 0;
            while (done < n) {
                int rest = Math.min(restOfPage(from + done), restOfPage(place + done));
                int piece = Math.min(n - done, rest);
                copyPiece(other, from + done, place + done, piece);
                done += piece;
            }
        }

        private static int restOfPage(int place) {
            return PAGE_BYTES - (place & (PAGE_BYTES - 1));
        }

        private void copyPiece(Stretch other, int from, int place, int n) {
            Page source = other.pageAt(from);
            Page target = source == null ? null : pageFor(place);
            if (source == null || target == null) {
                clearPiece(place, n);
                return;
            }
            int mask = PAGE_BYTES - 1;
            System.arraycopy(source.cells, from & mask, target.cells, place & mask, n);
        }

        private void clearPiece(int place, int n) {
            Page page = pageAt(place);
            if (page != null) {
                int at = place & (PAGE_BYTES - 1);
                Arrays.fill(page.cells, at, at + n, (byte) 0);
            }
        }

        private Page pageAt(int place) {
            int k = place / PAGE_BYTES;
            return place < 0 || k >= pages.length ? null : pages[k];
        }

        private Page pageFor(int place) {
            int k = place / PAGE_BYTES;
            if (place < 0 || k >= pages.length) {
                return null;
            }
            if (pages[k] == null) {
                newest = new Page(k, newest);
                pages[k] = newest;
            }
            return pages[k];
        }
    }

    /**
     * The memory's bytes and rights. Image and heap lie in one stretch as their addresses do; the
     * stack lies behind them with a gap, so that no operand goes from the heap on into it.
     */
    private static final class Memory {
        private static final int LOW_BYTES = MAX_IMAGE + MAX_HEAP;
        private static final int STACK_PLACE = LOW_BYTES + PAGE_BYTES;
        private static final int ALL_BYTES = STACK_PLACE + STACK_BYTES;
        private static final long STACK_START = STACK_END - STACK_BYTES;

        private static final int TEXT = 0;
        private static final int RODATA = 1;
        private static final int DATA = 2;
        private static final int HEAP = 3;
        private static final int STACK = 4;
        private static final int ROWS = 5;

        final Stretch cells = new Stretch(ALL_BYTES);
        private final int[] starts = new int[ROWS];
        private final int[] ends = new int[ROWS];

        void layRows(int image, int text, int rodata, int rodataEnd, int data, int dataEnd) {
            int heap = (image + 4095) / 4096 * 4096;
            layRow(TEXT, 0, text);
            layRow(RODATA, rodata, rodataEnd);
            layRow(DATA, data, dataEnd);
            layRow(HEAP, heap, heap);
            layRow(STACK, STACK_PLACE, ALL_BYTES);
        }

        private void layRow(int row, int start, int end) {
            starts[row] = start;
            ends[row] = end;
        }

        void loadImage(Stretch filled, int image) {
            cells.becomeStartOf(filled, image);
        }

        long breakAddress() {
            return IMAGE_START + ends[HEAP];
        }

        void moveBreak(long address) {
            long from = IMAGE_START + starts[HEAP];
            if (address < from || address > from + MAX_HEAP) {
                return;
            }
            int end = (int) (address - IMAGE_START);
            cells.clearFrom(end, ends[HEAP] - end);
            ends[HEAP] = end;
        }

        /** Where n bytes at an address lie, or NONE if one of them may not be used so. */
        int placeFor(long address, int n, int use) {
            int place = placeOf(address);
            int reached = place;
            // Rows rise and may touch one another: the bytes may go from one on into the next.
            for (int row = use == WRITING ? DATA : TEXT; row < ROWS; row++) {
                if (reached >= starts[row] && reached < ends[row]) {
                    reached = ends[row];
                }
            }
            return reached - place < n ? NONE : place;
        }

        private static int placeOf(long address) {
            if (address >= IMAGE_START && address < IMAGE_START + LOW_BYTES) {
                return (int) (address - IMAGE_START);
            }
            if (address >= STACK_START && address < STACK_END) {
                return STACK_PLACE + (int) (address - STACK_START);
            }
            return NONE;
        }
    }

    private static final class Flags {
        boolean carry;
        boolean parity;
        boolean zero;
        boolean sign;
        boolean overflow;

        void clear() {
            carry = false;
            parity = false;
            zero = false;
            sign = false;
            overflow = false;
        }

        long asWord() {
            return 2 + (carry ? 1 : 0) + (parity ? 4 : 0) + (zero ? 64 : 0) + (sign ? 128 : 0) + (overflow ? 2048 : 0);
        }

        boolean holds(int condition) {
            boolean odd = (condition & 1) != 0;
            return pairHolds(condition >> 1) != odd;
        }

        private boolean pairHolds(int pair) {
            switch (pair) {
                case 0:
                    return overflow;
                case 1:
                    return carry;
                case 2:
                    return zero;
                case 3:
                    return carry || zero;
                case 4:
                    return sign;
                case 5:
                    return parity;
                case 6:
                    return sign != overflow;
                default:
                    return zero || sign != overflow;
            }
        }

        void tellResult(long result, int size) {
            zero = result == 0;
            sign = (result & topOf(size)) != 0;
            parity = (Long.bitCount(result & 255) & 1) == 0;
        }

        void tellSum(long x, long y, long sum, int size) {
            long top = topOf(size);
            carry = (((x & y) | ((x | y) & ~sum)) & top) != 0;
            overflow = ((x ^ sum) & (y ^ sum) & top) != 0;
            tellResult(sum, size);
        }

        void tellDifference(long x, long y, long difference, int size) {
            long top = topOf(size);
            carry = (((~x & y) | ((~x | y) & difference)) & top) != 0;
            overflow = ((x ^ y) & (x ^ difference) & top) != 0;
            tellResult(difference, size);
        }

        void tellBits(long result, int size) {
            carry = false;
            overflow = false;
            tellResult(result, size);
        }

        void tellOversize(boolean oversize) {
            carry = oversize;
            overflow = oversize;
        }
    }

    private static final class Instruction {
        int op = 39;
        int size;
        int condition;
        final int[] kinds = new int[3];
        final int[] registers = new int[3];
        int base;
        int index;
        int scale;
        int displacement;
        long number;

        boolean isSound() {
            return op >= 0 && op <= 53 && sizeFits() && conditionFits() && thirdFits() && operandsFit()
                && (!has(MEMORY) || memoryFits()) && (!has(NUMBER) || numberFits());
        }

        boolean has(int kind) {
            return kinds[0] == kind || kinds[1] == kind || kinds[2] == kind;
        }

        /** False where x and y are one register, so that what is written last would be all that is left. */
        boolean registersDiffer() {
            return kinds[0] != REGISTER || kinds[1] != REGISTER || registers[0] != registers[1];
        }

        private boolean sizeFits() {
            switch (op) {
                case 14: case 29: case 30:
                    return size == 8;
                case 11: case 12: case 13: case 23: case 36: case 37: case 38: case 44: case 45: case 46: case 47:
                    return size == 4 || size == 8;
                case 31: case 32: case 33: case 34: case 39: case 40: case 41: case 42: case 43:
                    return size == 0;
                case 35:
                    return size == 1;
                default:
                    return size == 1 || size == 4 || size == 8;
            }
        }

        private boolean conditionFits() {
            boolean conditional = op >= 34 && op <= 36;
            return condition >= 0 && condition <= (conditional ? 15 : 0);
        }

        private boolean thirdFits() {
            return kinds[2] == NOTHING || (op == 23 && kinds[2] == NUMBER);
        }

        private boolean operandsFit() {
            int x = kinds[0];
            int y = kinds[1];
            switch (op) {
                case 0: case 1: case 2: case 3: case 4: case 5: case 6: case 7: case 8:
                    return (isPlace(x) && (y == REGISTER || y == NUMBER)) || (x == REGISTER && y == MEMORY);
                case 9: case 47:
                    return isPlace(x) && (y == REGISTER || y == NUMBER);
                case 10: case 48: case 49:
                    return isPlace(x) && y == REGISTER;
                case 11:
                    return x == REGISTER && y == MEMORY;
                case 12: case 13: case 14: case 23: case 36: case 44: case 45:
                    return x == REGISTER && isPlace(y);
                case 24: case 25: case 26: case 27: case 28:
                    return isPlace(x) && (y == NUMBER || (y == REGISTER && registers[1] == RCX));
                default:
                    return y == NOTHING && onlyOperandFits(x);
            }
        }

        private boolean onlyOperandFits(int x) {
            switch (op) {
                case 15: case 16: case 17: case 18: case 19: case 20: case 21: case 22: case 30: case 35:
                    return isPlace(x);
                case 29: case 31: case 32:
                    return x != NOTHING;
                case 33:
                    return x == NOTHING || x == NUMBER;
                case 34:
                    return x == NUMBER;
                case 46:
                    return x == REGISTER;
                default:
                    return x == NOTHING;
            }
        }

        private static boolean isPlace(int kind) {
            return kind == REGISTER || kind == MEMORY;
        }

        private boolean memoryFits() {
            if (base < -1 || base > 16 || index < -1 || index > 15 || index == RSP) {
                return false;
            }
            if (index == -1) {
                return scale == 1;
            }
            return base != 16 && (scale == 1 || scale == 2 || scale == 4 || scale == 8);
        }

        private boolean numberFits() {
            switch (op) {
                case 24: case 25: case 26: case 27: case 28: case 47:
                    return number >= 0 && number <= 255;
                case 33:
                    return number >= 0 && number <= 65535;
                default:
                    return (op == 8 && size == 8) || number == signed(number, size == 1 ? 1 : 4);
            }
        }
    }

    /** What the ops work on. A step that meets a stop must leave all of it as it was. */
    private static final class Core {
        final long[] registers = new long[16];
        final Flags flags = new Flags();
        final Memory memory = new Memory();
        final Instruction hand;
        long ip;
        long next;
        long address;
        int stop;
        long stopValue;

        Core(Instruction hand) {
            this.hand = hand;
        }

        void startAnew() {
            Arrays.fill(registers, 0L);
            registers[RSP] = STACK_END;
            flags.clear();
            ip = IMAGE_START;
            stop = 0;
            stopValue = 0;
        }

        void prepare(int length) {
            stop = 0;
            stopValue = 0;
            next = ip + length;
            address = hand.has(MEMORY) ? memoryAddress() : 0;
        }

        long memoryAddress() {
            long from = hand.base == 16 ? next : registerOrZero(hand.base);
            return from + registerOrZero(hand.index) * hand.scale + hand.displacement;
        }

        private long registerOrZero(int k) {
            return k >= 0 && k < registers.length ? registers[k] : 0;
        }

        void stopWith(int kind, long value) {
            stop = kind;
            stopValue = value;
        }

        long part(int k, int size) {
            return registers[k] & maskOf(size);
        }

        void putPart(int k, int size, long v) {
            if (size >= 4) {
                registers[k] = v & maskOf(size);
            } else {
                registers[k] = (registers[k] & ~maskOf(size)) | (v & maskOf(size));
            }
        }

        /** The operand's bytes without a sign; where it may not be read, the stop is told. */
        long fetch(int k, int size) {
            switch (hand.kinds[k]) {
                case REGISTER:
                    return part(hand.registers[k], size);
                case MEMORY:
                    return load(address, size);
                case NUMBER:
                    return hand.number & maskOf(size);
                default:
                    return 0;
            }
        }

        long load(long from, int size) {
            int place = memory.placeFor(from, size, READING);
            if (place == NONE) {
                stopWith(STOP_RIGHTS, from);
                return 0;
            }
            return memory.cells.wordAt(place, size);
        }

        /** Writes the operand, or tells the stop: false, and nothing is written. */
        boolean store(int k, int size, long v) {
            if (hand.kinds[k] != MEMORY) {
                putPart(hand.registers[k], size, v);
                return true;
            }
            return save(address, size, v);
        }

        boolean save(long to, int size, long v) {
            int place = memory.placeFor(to, size, WRITING);
            if (place == NONE) {
                stopWith(STOP_RIGHTS, to);
                return false;
            }
            memory.cells.putWord(place, size, v);
            return true;
        }
    }

    /** Ops whose result comes from sums, differences and bits taken one with one. */
    private static final class Sums {
        private final Core core;
        private final Flags flags;
        private final Instruction hand;

        Sums(Core core) {
            this.core = core;
            flags = core.flags;
            hand = core.hand;
        }

        void perform(int op) {
            int size = hand.size;
            long x = core.fetch(0, size);
            long y = core.fetch(1, size);
            if (core.stop != 0) {
                return;
            }
            long result = resultOf(op, x, y) & maskOf(size);
            boolean kept = op != 7 && op != 9;
            if (kept && !core.store(0, size, result)) {
                return;
            }
            if (op == 48 && hand.registersDiffer()) {
                core.store(1, size, x);
            }
            tellFlags(op, x, y, result);
        }

        private long resultOf(int op, long x, long y) {
            long more = flags.carry ? 1 : 0;
            switch (op) {
                case 0: case 48:
                    return x + y;
                case 1:
                    return x | y;
                case 2:
                    return x + y + more;
                case 3:
                    return x - y - more;
                case 4: case 9:
                    return x & y;
                case 6:
                    return x ^ y;
                case 15:
                    return ~x;
                case 16:
                    return -x;
                case 21:
                    return x + 1;
                case 22:
                    return x - 1;
                default:
                    return x - y;
            }
        }

        private void tellFlags(int op, long x, long y, long result) {
            int size = hand.size;
            boolean carry = flags.carry;
            switch (op) {
                case 0: case 2: case 48:
                    flags.tellSum(x, y, result, size);
                    break;
                case 3: case 5: case 7:
                    flags.tellDifference(x, y, result, size);
                    break;
                case 15:
                    break;
                case 16:
                    flags.tellDifference(0, x, result, size);
                    break;
                case 21:
                    flags.tellSum(x, 1, result, size);
                    flags.carry = carry;
                    break;
                case 22:
                    flags.tellDifference(x, 1, result, size);
                    flags.carry = carry;
                    break;
                default:
                    flags.tellBits(result, size);
                    break;
            }
        }

        void compareAndExchange() {
            int size = hand.size;
            long a = core.part(RAX, size);
            long x = core.fetch(0, size);
            if (core.stop != 0) {
                return;
            }
            if (a != x) {
                core.putPart(RAX, size, x);
            } else if (!core.store(0, size, core.fetch(1, size))) {
                return;
            }
            flags.tellDifference(a, x, (a - x) & maskOf(size), size);
        }
    }

    /** Products, quotients, and the signs that are spread ahead of a division. */
    private static final class Products {
        private final Core core;
        private final Instruction hand;
        private long lower;
        private long upper;
        private long quotient;
        private long rest;

        Products(Core core) {
            this.core = core;
            hand = core.hand;
        }

        void perform(int op) {
            switch (op) {
                case 17: case 18:
                    multiplyWide(op == 18);
                    break;
                case 19: case 20:
                    divide(op == 20);
                    break;
                case 23:
                    multiplyNarrow();
                    break;
                case 37:
                    core.putPart(RDX, hand.size, signed(core.registers[RAX], hand.size) < 0 ? -1L : 0L);
                    break;
                default:
                    core.putPart(RAX, hand.size, signed(core.registers[RAX], hand.size / 2));
                    break;
            }
        }

        private void multiplyWide(boolean withSigns) {
            int size = hand.size;
            long x = core.fetch(0, size);
            if (core.stop != 0) {
                return;
            }
            multiply(core.part(RAX, size), x, size, withSigns);
            putPair(lower, upper);
            core.flags.tellOversize(upper != (withSigns ? signFill(lower, size) : 0));
        }

        private void multiplyNarrow() {
            int size = hand.size;
            boolean three = hand.kinds[2] == NUMBER;
            long y = core.fetch(1, size);
            long factor = core.fetch(three ? 2 : 0, size);
            if (core.stop != 0) {
                return;
            }
            multiply(factor, y, size, true);
            core.store(0, size, lower);
            core.flags.tellOversize(upper != signFill(lower, size));
        }

        private void divide(boolean withSigns) {
            int size = hand.size;
            long x = core.fetch(0, size);
            if (core.stop != 0) {
                return;
            }
            lower = core.part(RAX, size);
            upper = size == 1 ? core.registers[RAX] >>> 8 & 255 : core.part(RDX, size);
            boolean fits = withSigns ? divideSigned(x, size) : divideUnsigned(x, size);
            if (!fits) {
                core.stopWith(STOP_DIVISION, 0);
                return;
            }
            putPair(quotient, rest);
        }

        private void putPair(long low, long high) {
            int size = hand.size;
            core.putPart(RAX, size, low);
            if (size == 1) {
                core.putPart(RAX, 2, high << 8 | low);
            } else {
                core.putPart(RDX, size, high);
            }
        }

        private static long signFill(long v, int size) {
            return (v & topOf(size)) != 0 ? maskOf(size) : 0;
        }

        private void multiply(long a, long b, int size, boolean withSigns) {
            long p = withSigns ? signed(a, size) : a;
            long q = withSigns ? signed(b, size) : b;
            long product = p * q;
            if (size == 8) {
                lower = product;
                upper = highOf(p, q);
                if (withSigns) {
                    upper -= (p < 0 ? q : 0) + (q < 0 ? p : 0);
                }
            } else {
                lower = product & maskOf(size);
                upper = product >>> (8 * size) & maskOf(size);
            }
        }

        /** The upper 64 bits of a product of 128 bits, without signs. */
        private static long highOf(long a, long b) {
            long half = maskOf(4);
            long aLow = a & half;
            long aHigh = a >>> 32;
            long bLow = b & half;
            long bHigh = b >>> 32;
            long first = aHigh * bLow + (aLow * bLow >>> 32);
            long second = aLow * bHigh + (first & half);
            return aHigh * bHigh + (first >>> 32) + (second >>> 32);
        }

        /** Divides upper : lower by x, a bit of the quotient a round; false if it does not fit. */
        private boolean divideUnsigned(long x, int size) {
            if (!below(upper, x)) {
                return false;
            }
            long left = upper;
            long result = 0;
            for (int bit = 8 * size - 1; bit >= 0; bit--) {
                boolean carry = left < 0;
                left = left << 1 | (lower >>> bit & 1);
                result <<= 1;
                if (carry || !below(left, x)) {
                    left -= x;
                    result |= 1;
                }
            }
            quotient = result;
            rest = left;
            return true;
        }

        private boolean divideSigned(long x, int size) {
            long mask = maskOf(size);
            boolean negative = (upper & topOf(size)) != 0;
            boolean opposite = negative != ((x & topOf(size)) != 0);
            if (negative) {
                lower = -lower & mask;
                upper = (lower == 0 ? -upper : ~upper) & mask;
            }
            long divisor = (x & topOf(size)) != 0 ? -x & mask : x;
            if (!divideUnsigned(divisor, size)) {
                return false;
            }
            // The most negative quotient has no positive counterpart.
            long most = opposite ? topOf(size) : topOf(size) - 1;
            if (below(most, quotient)) {
                return false;
            }
            quotient = opposite ? -quotient & mask : quotient;
            rest = negative ? -rest & mask : rest;
            return true;
        }
    }

    /** Shifts, and ops on single bits and the order of bytes. */
    private static final class Bits {
        private final Core core;
        private final Flags flags;
        private final Instruction hand;

        Bits(Core core) {
            this.core = core;
            flags = core.flags;
            hand = core.hand;
        }

        void perform(int op) {
            switch (op) {
                case 44: case 45:
                    search(op == 44);
                    break;
                case 46:
                    turnBytes();
                    break;
                case 47:
                    testBit();
                    break;
                default:
                    shift(op);
                    break;
            }
        }

        private void shift(int op) {
            int size = hand.size;
            long x = core.fetch(0, size);
            int by = (int) core.fetch(1, 1) & (size == 8 ? 63 : 31);
            if (core.stop != 0 || by == 0) {
                return;
            }
            long result = x;
            for (int i = 1; i < by; i++) {
                result = shiftOnce(op, result, size);
            }
            boolean out = (result & (op == 24 || op == 26 ? topOf(size) : 1)) != 0;
            result = shiftOnce(op, result, size);
            if (!core.store(0, size, result)) {
                return;
            }
            flags.carry = out;
            if (by == 1) {
                flags.overflow = overflowOfOne(op, x, result, size);
            }
            if (op >= 26) {
                flags.tellResult(result, size);
            }
        }

        private static long shiftOnce(int op, long v, int size) {
            long top = topOf(size);
            switch (op) {
                case 24:
                    return (v << 1 & maskOf(size)) | ((v & top) != 0 ? 1 : 0);
                case 25:
                    return v >>> 1 | ((v & 1) != 0 ? top : 0);
                case 26:
                    return v << 1 & maskOf(size);
                case 27:
                    return v >>> 1;
                default:
                    return v >>> 1 | (v & top);
            }
        }

        private boolean overflowOfOne(int op, long x, long result, int size) {
            long top = topOf(size);
            boolean upper = (result & top) != 0;
            switch (op) {
                case 24: case 26:
                    return flags.carry != upper;
                case 25:
                    return upper != ((result & top >>> 1) != 0);
                case 27:
                    return (x & top) != 0;
                default:
                    return false;
            }
        }

        private void search(boolean lowest) {
            int size = hand.size;
            long y = core.fetch(1, size);
            if (core.stop != 0) {
                return;
            }
            flags.zero = y == 0;
            if (y != 0) {
                core.store(0, size, lowest ? lowestBit(y) : highestBit(y));
            }
        }

        private static int lowestBit(long v) {
            int bit = 0;
            while (bit < 63 && (v >>> bit & 1) == 0) {
                bit++;
            }
            return bit;
        }

        private static int highestBit(long v) {
            int bit = 63;
            while (bit > 0 && (v >>> bit & 1) == 0) {
                bit--;
            }
            return bit;
        }

        private void turnBytes() {
            int size = hand.size;
            long x = core.fetch(0, size);
            long turned = 0;
            for (int i = 0; i < size; i++) {
                turned = turned << 8 | (x >>> (8 * i) & 255);
            }
            core.store(0, size, turned);
        }

        private void testBit() {
            int size = hand.size;
            long x = core.fetch(0, size);
            int bit = (int) core.fetch(1, 1) & (8 * size - 1);
            if (core.stop == 0) {
                flags.carry = (x >>> bit & 1) != 0;
            }
        }
    }

    /** Values that go from place to place, the stack's and IP among them. */
    private static final class Moves {
        private final Core core;
        private final Instruction hand;

        Moves(Core core) {
            this.core = core;
            hand = core.hand;
        }

        void perform(int op) {
            switch (op) {
                case 10:
                    exchange();
                    break;
                case 29:
                    pushOperand();
                    break;
                case 30:
                    popOperand();
                    break;
                case 31:
                    jump(target());
                    break;
                case 32:
                    call(target());
                    break;
                case 33:
                    comeBack();
                    break;
                case 34:
                    if (core.flags.holds(hand.condition)) {
                        jump(target());
                    }
                    break;
                case 35:
                    core.store(0, 1, core.flags.holds(hand.condition) ? 1 : 0);
                    break;
                case 36:
                    move(valueIfCondition());
                    break;
                case 43:
                    leaveFrame();
                    break;
                case 50: case 51: case 52: case 53:
                    moveString(op == 50 || op == 52, op >= 52);
                    break;
                default:
                    move(valueOfMove(op));
                    break;
            }
        }

        private void move(long v) {
            if (core.stop == 0) {
                core.store(0, hand.size, v);
            }
        }

        private long valueOfMove(int op) {
            switch (op) {
                case 11:
                    return core.address;
                case 12:
                    return core.fetch(1, 1);
                case 13:
                    return signed(core.fetch(1, 1), 1);
                case 14:
                    return signed(core.fetch(1, 4), 4);
                default:
                    return core.fetch(1, hand.size);
            }
        }

        private long valueIfCondition() {
            // y is an operand that is read, whether or not it is then taken.
            long y = core.fetch(1, hand.size);
            return core.flags.holds(hand.condition) ? y : core.fetch(0, hand.size);
        }

        private void exchange() {
            long x = core.fetch(0, hand.size);
            long y = core.fetch(1, hand.size);
            if (core.stop == 0 && core.store(0, hand.size, y)) {
                core.store(1, hand.size, x);
            }
        }

        private void pushOperand() {
            long x = core.fetch(0, 8);
            long to = core.registers[RSP] - 8;
            if (core.stop == 0 && core.save(to, 8, x)) {
                core.registers[RSP] = to;
            }
        }

        private void popOperand() {
            long from = core.registers[RSP];
            long v = core.load(from, 8);
            if (core.stop != 0) {
                return;
            }
            core.registers[RSP] = from + 8;
            if (hand.has(MEMORY)) {
                core.address = core.memoryAddress();
            }
            if (!core.store(0, 8, v)) {
                core.registers[RSP] = from;
            }
        }

        private void jump(long to) {
            if (core.stop == 0) {
                core.next = to;
            }
        }

        private void call(long to) {
            long top = core.registers[RSP] - 8;
            if (core.stop == 0 && core.save(top, 8, core.next)) {
                core.registers[RSP] = top;
                core.next = to;
            }
        }

        private long target() {
            long x = core.fetch(0, 8);
            return hand.kinds[0] == NUMBER ? core.next + x : x;
        }

        private void comeBack() {
            long to = core.load(core.registers[RSP], 8);
            if (core.stop == 0) {
                core.registers[RSP] += 8 + core.fetch(0, 8);
                core.next = to;
            }
        }

        private void leaveFrame() {
            long frame = core.registers[RBP];
            long v = core.load(frame, 8);
            if (core.stop == 0) {
                core.registers[RSP] = frame + 8;
                core.registers[RBP] = v;
            }
        }

        private void moveString(boolean copy, boolean repeat) {
            int size = hand.size;
            long[] registers = core.registers;
            if (repeat && registers[RCX] == 0) {
                return;
            }
            long v = copy ? core.load(registers[RSI], size) : core.part(RAX, size);
            if (core.stop != 0 || !core.save(registers[RDI], size, v)) {
                return;
            }
            registers[RDI] += size;
            registers[RSI] += copy ? size : 0;
            if (repeat) {
                registers[RCX]--;
                core.next = registers[RCX] != 0 ? core.ip : core.next;
            }
        }
    }

    /** INPUT, OUTPUT, and what a program may ask for by a syscall. */
    private static final class Services {
        private final Core core;
        private final Stretch incoming = new Stretch(MAX_PORT);
        private final Stretch outgoing = new Stretch(MAX_PORT);
        private int first;
        private int waiting;
        private int sent;

        Services(Core core) {
            this.core = core;
        }

        void startAnew() {
            first = 0;
            waiting = 0;
            sent = 0;
        }

        boolean appendInput(long word, int n) {
            if (n < 1 || n > 8 || waiting + n > MAX_PORT) {
                return false;
            }
            for (int i = n - 1; i >= 0; i--) {
                incoming.putByte((first + waiting) % MAX_PORT, (int) (word >>> (8 * i)) & 255);
                waiting++;
            }
            return true;
        }

        int outputAt(int i) {
            if (i == -1) {
                return sent;
            }
            return i >= 0 && i < sent ? outgoing.byteAt(i) : NONE;
        }

        void serve() {
            long[] registers = core.registers;
            long asked = registers[RAX];
            registers[RCX] = core.next;
            registers[R11] = core.flags.asWord();
            if (asked == 0) {
                registers[RAX] = takeInput(registers[RSI], registers[RDX]);
            } else if (asked == 1) {
                registers[RAX] = giveOutput(registers[RSI], registers[RDX]);
            } else if (asked == 12) {
                core.memory.moveBreak(registers[RDI]);
                registers[RAX] = core.memory.breakAddress();
            } else if (asked == 60) {
                core.stopWith(STOP_END, registers[RDI]);
            } else {
                registers[RAX] = -38;
            }
        }

        private long takeInput(long address, long atMost) {
            int n = below(atMost, waiting) ? (int) atMost : waiting;
            int place = core.memory.placeFor(address, n, WRITING);
            if (n > 0 && place == NONE) {
                return -14;
            }
            for (int i = 0; i < n; i++) {
                core.memory.cells.putByte(place + i, incoming.byteAt((first + i) % MAX_PORT));
            }
            first = (first + n) % MAX_PORT;
            waiting -= n;
            return n;
        }

        private long giveOutput(long address, long count) {
            if (below(MAX_PORT - sent, count)) {
                return -28;
            }
            int n = (int) count;
            int place = core.memory.placeFor(address, n, READING);
            if (n > 0 && place == NONE) {
                return -14;
            }
            outgoing.copyFrom(core.memory.cells, place, sent, n);
            sent += n;
            return n;
        }
    }
}
