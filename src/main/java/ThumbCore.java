/** A processor core with instructions of two bytes; ../shared/DOC.md says what each call must do. */
public final class ThumbCore {
    public static final int NONE = -1;

    private static final int SP = 13;
    private static final int LR = 14;
    private static final int PC = 15;

    private static final int FAULT = 3;
    private static final int CALL = 11;
    private static final int TICK = 15;

    private static final int RETURN_TO_NONE = -7;
    private static final int RETURN_TO_ACTIVE = -15;

    private static final int MASK_OFF = 46690;
    private static final int MASK_ON = 46706;
    private static final int SLEEP = 48944;

    private static final int MADE = 0;
    private static final int ENTERED = 1;
    private static final int ASLEEP = 2;
    private static final int LOCKED = 3;

    private static final int MOST_STEPS = 100;
    private static final int MOST_RELOAD = 1000;

    /** The registers that an exception lays down, from the lowest word on; two words more come behind them. */
    private static final int[] LAID = {0, 1, 2, 3, 12, 14};
    private static final int LAID_WORDS = 8;
    private static final int LAID_BYTES = 32;
    private static final int LAID_ADDRESS = 24;
    private static final int LAID_STATUS = 28;

    private final Memory memory;
    private final int[] registers;
    private final Flags flags;
    private final Exceptions exceptions;
    private final Counter counter;
    private boolean asleep;
    private boolean locked;
    /** What PC becomes if the instruction that is being made is no fault. */
    private int next;

    public ThumbCore(int size) {
        memory = new Memory(Math.max(128, Math.min(2048, size & ~3)));
        registers = new int[16];
        flags = new Flags();
        exceptions = new Exceptions();
        counter = new Counter();
        reset();
    }

    public boolean poke(int address, int value, int n) {
        if (n != 1 && n != 2 && n != 4 || !memory.holds(address, n)) {
            return false;
        }
        for (int b = 0; b < n; b++) {
            memory.write(address + b, value >>> 8 * b, 1);
        }
        return true;
    }

    public int peek(int address) {
        return memory.holds(address, 1) ? memory.read(address, 1) : NONE;
    }

    public void reset() {
        for (int k = 0; k < SP; k++) {
            registers[k] = 0;
        }
        registers[SP] = memory.word(0) & ~3;
        registers[LR] = -1;
        registers[PC] = memory.word(4) & ~1;
        flags.take(0);
        exceptions.clear();
        counter.begin(0, false);
        asleep = false;
        locked = false;
    }

    public int step() {
        if (locked) {
            return LOCKED;
        }
        if (counter.moves()) {
            exceptions.await(TICK);
        }
        if (asleep && exceptions.mostUrgent(exceptions.presentUnmasked()) == 0) {
            return ASLEEP;
        }
        asleep = false;
        int urgent = exceptions.mostUrgent(exceptions.present());
        if (urgent != 0) {
            enter(urgent, registers[PC]);
        } else if (perform()) {
            registers[PC] = next;
        } else {
            fault();
        }
        if (locked) {
            return LOCKED;
        }
        return urgent != 0 ? ENTERED : MADE;
    }

    public int run(int n) {
        if (n < 0 || n > MOST_STEPS) {
            return NONE;
        }
        for (int made = 0; made < n; made++) {
            int outcome = step();
            if (outcome == ASLEEP || outcome == LOCKED) {
                return made;
            }
        }
        return n;
    }

    public int register(int k) {
        return k >= 0 && k <= PC ? registers[k] : 0;
    }

    public boolean set(int k, int value) {
        if (k < 0 || k > PC) {
            return false;
        }
        registers[k] = fitting(k, value);
        return true;
    }

    public int status() {
        return flags.bits() | 1 << 24 | exceptions.current;
    }

    public int about(int what) {
        switch (what) {
            case 0:
                return exceptions.current;
            case 1:
                return Integer.bitCount(exceptions.active);
            case 2:
                return exceptions.masked ? 1 : 0;
            case 3:
                return asleep ? 1 : 0;
            case 4:
                return locked ? 1 : 0;
            case 5:
                return counter.number;
            case 6:
                return exceptions.present();
            default:
                return NONE;
        }
    }

    public boolean pend(int exception) {
        if (exception != 2 && exception != 14 && exception != TICK) {
            return false;
        }
        exceptions.await(exception);
        return true;
    }

    public int exception(int k) {
        return (exceptions.isPending(k) ? 1 : 0) + (exceptions.isActive(k) ? 2 : 0);
    }

    public boolean priority(int exception, int priority) {
        boolean movable = exception == CALL || exception == 14 || exception == TICK;
        if (!movable || priority < 0 || priority > 3) {
            return false;
        }
        exceptions.priorities[exception] = priority;
        return true;
    }

    public boolean tick(int reload, boolean on) {
        if (reload < 0 || reload > MOST_RELOAD) {
            return false;
        }
        counter.begin(reload, on);
        return true;
    }

    /** SP and PC never hold their lowest bits. */
    private static int fitting(int k, int value) {
        if (k == SP) {
            return value & ~3;
        }
        return k == PC ? value & ~1 : value;
    }

    // Instructions. Each method looks first and acts then, so that a fault (false) has done nothing.

    private boolean perform() {
        next = registers[PC] + 2;
        if (!memory.isThere(registers[PC], 2)) {
            return false;
        }
        int h = memory.read(registers[PC], 2);
        switch (h >>> 11) {
            case 0:
            case 1:
            case 2:
                return moveByConstant(h);
            case 3:
                return addThree(h);
            case 4:
            case 5:
            case 6:
            case 7:
                return withByte(h);
            case 8:
                return h >>> 10 == 16 ? combine(h) : withHigh(h);
            case 9:
            case 18:
            case 19:
            case 20:
            case 21:
                return fromBase(h);
            case 10:
            case 11:
                return atSum(h);
            case 12:
            case 13:
            case 14:
            case 15:
            case 16:
            case 17:
                return atOffset(h);
            case 22:
            case 23:
                return miscellaneous(h);
            case 24:
                return storeMany(h >>> 8 & 7, h & 255);
            case 25:
                return loadMany(h >>> 8 & 7, h & 255);
            case 26:
            case 27:
                return branchOrCall(h >>> 8 & 15, (byte) h);
            case 28:
                next = here() + (h << 21 >> 20);
                return true;
            case 30:
                return branchFar(h);
            default:
                return false;
        }
    }

    private int here() {
        return registers[PC] + 4;
    }

    private boolean moveByConstant(int h) {
        int d = h & 7;
        int x = registers[h >>> 3 & 7];
        int i = h >>> 6 & 31;
        switch (h >>> 11) {
            case 0:
                registers[d] = flags.moveUp(x, i);
                return true;
            case 1:
                registers[d] = flags.moveDown(x, i == 0 ? 32 : i);
                return true;
            default:
                registers[d] = flags.moveDownSigned(x, i == 0 ? 32 : i);
                return true;
        }
    }

    private boolean addThree(int h) {
        int m = h >>> 6 & 7;
        boolean constant = (h >>> 10 & 1) == 1;
        boolean turned = (h >>> 9 & 1) == 1;
        int x = registers[h >>> 3 & 7];
        int y = constant ? m : registers[m];
        registers[h & 7] = turned ? flags.add(x, ~y, 1) : flags.add(x, y, 0);
        return true;
    }

    private boolean withByte(int h) {
        int r = h >>> 8 & 7;
        int k = h & 255;
        switch (h >>> 11) {
            case 4:
                registers[r] = flags.mark(k);
                return true;
            case 5:
                flags.add(registers[r], ~k, 1);
                return true;
            case 6:
                registers[r] = flags.add(registers[r], k, 0);
                return true;
            default:
                registers[r] = flags.add(registers[r], ~k, 1);
                return true;
        }
    }

    private boolean combine(int h) {
        int d = h & 7;
        int kind = h >>> 6 & 15;
        int result = combined(kind, registers[d], registers[h >>> 3 & 7]);
        boolean onlyFlags = kind == 8 || kind == 10 || kind == 11;
        if (!onlyFlags) {
            registers[d] = result;
        }
        return true;
    }

    private int combined(int kind, int x, int y) {
        switch (kind) {
            case 0:
            case 8:
                return flags.mark(x & y);
            case 1:
                return flags.mark(x ^ y);
            case 2:
                return flags.moveUp(x, y & 255);
            case 3:
                return flags.moveDown(x, y & 255);
            case 4:
                return flags.moveDownSigned(x, y & 255);
            case 5:
                return flags.add(x, y, flags.carry ? 1 : 0);
            case 6:
                return flags.add(x, ~y, flags.carry ? 1 : 0);
            case 7:
                return flags.turnRound(x, y & 255);
            case 9:
                return flags.add(~y, 0, 1);
            case 10:
                return flags.add(x, ~y, 1);
            case 11:
                return flags.add(x, y, 0);
            case 12:
                return flags.mark(x | y);
            case 13:
                return flags.mark(x * y);
            case 14:
                return flags.mark(x & ~y);
            default:
                return flags.mark(~y);
        }
    }

    private boolean withHigh(int h) {
        int d = h & 7 | h >>> 4 & 8;
        int m = h >>> 3 & 15;
        switch (h >>> 8 & 3) {
            case 0:
                put(d, readHigh(d) + readHigh(m));
                return true;
            case 1:
                if (d < 8 && m < 8 || d == PC || m == PC) {
                    return false;
                }
                flags.add(registers[d], ~registers[m], 1);
                return true;
            case 2:
                put(d, readHigh(m));
                return true;
            default:
                if ((h & 7) != 0 || m == PC) {
                    return false;
                }
                return branchTo(registers[m], (h >>> 7 & 1) == 1);
        }
    }

    private int readHigh(int k) {
        return k == PC ? here() : registers[k];
    }

    private void put(int k, int value) {
        if (k == PC) {
            next = fitting(PC, value);
        } else {
            registers[k] = fitting(k, value);
        }
    }

    private boolean branchTo(int v, boolean linking) {
        if (!mayGoTo(v, registers[SP])) {
            return false;
        }
        // A return brings LR back as it was laid down.
        if (linking && !isReturn(v)) {
            registers[LR] = next + 1;
        }
        goTo(v);
        return true;
    }

    private boolean fromBase(int h) {
        int r = h >>> 8 & 7;
        int offset = 4 * (h & 255);
        int base = here() & ~3;
        switch (h >>> 11) {
            case 9:
                return load(r, base + offset, 4);
            case 18:
                return store(r, registers[SP] + offset, 4);
            case 19:
                return load(r, registers[SP] + offset, 4);
            case 20:
                registers[r] = base + offset;
                return true;
            default:
                registers[r] = registers[SP] + offset;
                return true;
        }
    }

    private boolean atSum(int h) {
        int d = h & 7;
        int address = registers[h >>> 3 & 7] + registers[h >>> 6 & 7];
        switch (h >>> 9 & 7) {
            case 0:
                return store(d, address, 4);
            case 1:
                return store(d, address, 2);
            case 2:
                return store(d, address, 1);
            case 3:
                return loadSigned(d, address, 1);
            case 4:
                return load(d, address, 4);
            case 5:
                return load(d, address, 2);
            case 6:
                return load(d, address, 1);
            default:
                return loadSigned(d, address, 2);
        }
    }

    private boolean atOffset(int h) {
        int d = h & 7;
        int base = registers[h >>> 3 & 7];
        int i = h >>> 6 & 31;
        switch (h >>> 11) {
            case 12:
                return store(d, base + 4 * i, 4);
            case 13:
                return load(d, base + 4 * i, 4);
            case 14:
                return store(d, base + i, 1);
            case 15:
                return load(d, base + i, 1);
            case 16:
                return store(d, base + 2 * i, 2);
            default:
                return load(d, base + 2 * i, 2);
        }
    }

    private boolean store(int k, int address, int n) {
        if (!memory.isThere(address, n)) {
            return false;
        }
        memory.write(address, registers[k], n);
        return true;
    }

    private boolean load(int k, int address, int n) {
        if (!memory.isThere(address, n)) {
            return false;
        }
        registers[k] = memory.read(address, n);
        return true;
    }

    private boolean loadSigned(int k, int address, int n) {
        if (!memory.isThere(address, n)) {
            return false;
        }
        int value = memory.read(address, n);
        registers[k] = n == 1 ? (byte) value : (short) value;
        return true;
    }

    private boolean miscellaneous(int h) {
        switch (h >>> 8 & 15) {
            case 0:
                moveStack(h);
                return true;
            case 2:
                registers[h & 7] = extended(h >>> 6 & 3, registers[h >>> 3 & 7]);
                return true;
            case 4:
                return push(h & 255);
            case 5:
                return push(h & 255 | 1 << LR);
            case 6:
                return changeMask(h);
            case 10:
                return swapBytes(h);
            case 12:
                return pop(h & 255);
            case 13:
                return popAndGo(h & 255);
            case 15:
                return hint(h);
            default:
                return false;
        }
    }

    private void moveStack(int h) {
        int by = 4 * (h & 127);
        registers[SP] += (h >>> 7 & 1) == 1 ? -by : by;
    }

    private static int extended(int kind, int x) {
        switch (kind) {
            case 0:
                return (short) x;
            case 1:
                return (byte) x;
            case 2:
                return x & 0xFFFF;
            default:
                return x & 0xFF;
        }
    }

    private boolean changeMask(int h) {
        if (h != MASK_OFF && h != MASK_ON) {
            return false;
        }
        exceptions.masked = h == MASK_ON;
        return true;
    }

    private boolean swapBytes(int h) {
        int d = h & 7;
        int x = registers[h >>> 3 & 7];
        int inHalves = (x & 0x00FF00FF) << 8 | x >>> 8 & 0x00FF00FF;
        switch (h >>> 6 & 3) {
            case 0:
                registers[d] = inHalves << 16 | inHalves >>> 16;
                return true;
            case 1:
                registers[d] = inHalves;
                return true;
            case 3:
                registers[d] = (short) inHalves;
                return true;
            default:
                return false;
        }
    }

    private boolean hint(int h) {
        if ((h & 15) != 0) {
            return false;
        }
        asleep = h == SLEEP;
        return true;
    }

    private boolean push(int list) {
        int lowest = registers[SP] - 4 * Integer.bitCount(list);
        if (!areThere(list, lowest)) {
            return false;
        }
        writeList(list, lowest);
        registers[SP] = lowest;
        return true;
    }

    private boolean pop(int list) {
        int from = registers[SP];
        if (!areThere(list, from)) {
            return false;
        }
        readList(list, from);
        registers[SP] = behind(list, from);
        return true;
    }

    private boolean popAndGo(int list) {
        int from = registers[SP];
        int last = behind(list, from);
        if (!memory.areThere(from, Integer.bitCount(list) + 1)) {
            return false;
        }
        int v = memory.word(last);
        if (!mayGoTo(v, last + 4)) {
            return false;
        }
        readList(list, from);
        registers[SP] = last + 4;
        goTo(v);
        return true;
    }

    private boolean storeMany(int r, int list) {
        int from = registers[r];
        boolean listed = (list >>> r & 1) == 1;
        boolean lowerListed = (list & (1 << r) - 1) != 0;
        if (listed && lowerListed || !areThere(list, from)) {
            return false;
        }
        writeList(list, from);
        registers[r] = behind(list, from);
        return true;
    }

    private boolean loadMany(int r, int list) {
        int from = registers[r];
        if (!areThere(list, from)) {
            return false;
        }
        // Before the list is read: if Rr is in it, what is read must stand.
        registers[r] = behind(list, from);
        readList(list, from);
        return true;
    }

    /** A list of nothing is never there: no instruction may bear one. */
    private boolean areThere(int list, int from) {
        return list != 0 && memory.areThere(from, Integer.bitCount(list));
    }

    private static int behind(int list, int from) {
        return from + 4 * Integer.bitCount(list);
    }

    private void writeList(int list, int from) {
        int address = from;
        for (int k = 0; k < PC; k++) {
            if ((list >>> k & 1) == 1) {
                memory.putWord(address, registers[k]);
                address += 4;
            }
        }
    }

    private void readList(int list, int from) {
        int address = from;
        for (int k = 0; k < PC; k++) {
            if ((list >>> k & 1) == 1) {
                registers[k] = memory.word(address);
                address += 4;
            }
        }
    }

    private boolean branchOrCall(int condition, int halves) {
        if (condition == 14) {
            return false;
        }
        if (condition == 15) {
            return call();
        }
        if (flags.meet(condition)) {
            next = here() + 2 * halves;
        }
        return true;
    }

    private boolean call() {
        if (exceptions.priorities[CALL] >= exceptions.present()) {
            return false;
        }
        enter(CALL, next);
        next = registers[PC];
        return true;
    }

    private boolean branchFar(int h) {
        int at = registers[PC];
        if (!memory.isThere(at + 2, 2)) {
            return false;
        }
        int second = memory.read(at + 2, 2);
        if (second < 49152 || (second >>> 12 & 1) == 0) {
            return false;
        }
        registers[LR] = at + 5;
        next = here() + farOffset(h, second);
        return true;
    }

    private static int farOffset(int h, int second) {
        int s = h >>> 10 & 1;
        int bit23 = (second >>> 13 & 1) == s ? 1 : 0;
        int bit22 = (second >>> 11 & 1) == s ? 1 : 0;
        return -s << 24 | bit23 << 23 | bit22 << 22 | (h & 1023) << 12 | (second & 2047) << 1;
    }

    // Exceptions: going in, and coming back.

    private void fault() {
        if (exceptions.present() < 0) {
            locked = true;
        } else {
            enter(FAULT, registers[PC]);
        }
    }

    private void enter(int exception, int from) {
        int more = registers[SP] & 4;
        int base = registers[SP] - LAID_BYTES - more;
        // Read first: what is laid down may fall on it.
        int to = memory.word(4 * exception);
        if (!memory.areThere(base, LAID_WORDS) || (to & 1) == 0) {
            locked = true;
            return;
        }
        for (int w = 0; w < LAID.length; w++) {
            memory.putWord(base + 4 * w, registers[LAID[w]]);
        }
        memory.putWord(base + LAID_ADDRESS, from);
        memory.putWord(base + LAID_STATUS, status() | (more != 0 ? 1 << 9 : 0));
        registers[SP] = base;
        registers[LR] = exceptions.active == 0 ? RETURN_TO_NONE : RETURN_TO_ACTIVE;
        registers[PC] = to & ~1;
        exceptions.begin(exception);
    }

    private boolean isReturn(int v) {
        return exceptions.active != 0 && (v == RETURN_TO_NONE || v == RETURN_TO_ACTIVE);
    }

    private boolean mayGoTo(int v, int sp) {
        if (!isReturn(v)) {
            return (v & 1) == 1;
        }
        if (!memory.areThere(sp, LAID_WORDS)) {
            return false;
        }
        int told = memory.word(sp + LAID_STATUS) & 63;
        return v == RETURN_TO_NONE ? exceptions.mayEndLast(told) : exceptions.mayEndFor(told);
    }

    /** Only where mayGoTo holds of the same v and the present SP. */
    private void goTo(int v) {
        if (!isReturn(v)) {
            next = v - 1;
            return;
        }
        int base = registers[SP];
        int laid = memory.word(base + LAID_STATUS);
        for (int w = 0; w < LAID.length; w++) {
            registers[LAID[w]] = memory.word(base + 4 * w);
        }
        next = memory.word(base + LAID_ADDRESS) & ~1;
        registers[SP] = base + LAID_BYTES + ((laid >>> 9 & 1) == 1 ? 4 : 0);
        flags.take(laid);
        exceptions.endFor(laid & 63);
    }

    /** The bytes, four in a number, since the room that all objects share counts elements. */
    private static final class Memory {
        private final int size;
        private final int[] words;

        Memory(int size) {
            this.size = size;
            words = new int[size / 4];
        }

        boolean holds(int address, int bytes) {
            return address >= 0 && address <= size - bytes;
        }

        boolean isThere(int address, int n) {
            return (address & n - 1) == 0 && holds(address, n);
        }

        boolean areThere(int address, int count) {
            return (address & 3) == 0 && address >= 0 && address <= size - 4 * count;
        }

        /** Only where a word is there. */
        int word(int address) {
            return words[address >>> 2];
        }

        /** Only where a word is there. */
        void putWord(int address, int value) {
            words[address >>> 2] = value;
        }

        /** Only where isThere holds of 1, 2 or 4 bytes. */
        int read(int address, int n) {
            return words[address >>> 2] >>> 8 * (address & 3) & lowest(n);
        }

        /** Only where isThere holds of 1, 2 or 4 bytes. */
        void write(int address, int value, int n) {
            int up = 8 * (address & 3);
            int place = lowest(n) << up;
            words[address >>> 2] = words[address >>> 2] & ~place | value << up & place;
        }

        private static int lowest(int n) {
            return n == 4 ? -1 : (1 << 8 * n) - 1;
        }
    }

    /** N, Z, C and V, and the arithmetic that sets them. */
    private static final class Flags {
        private boolean negative;
        private boolean zero;
        private boolean carry;
        private boolean overflow;

        int bits() {
            return (negative ? 1 << 31 : 0) | (zero ? 1 << 30 : 0) | (carry ? 1 << 29 : 0) | (overflow ? 1 << 28 : 0);
        }

        void take(int bits) {
            negative = bits < 0;
            zero = (bits >>> 30 & 1) == 1;
            carry = (bits >>> 29 & 1) == 1;
            overflow = (bits >>> 28 & 1) == 1;
        }

        int mark(int x) {
            negative = x < 0;
            zero = x == 0;
            return x;
        }

        int add(int x, int y, int c) {
            long unsigned = (x & 0xFFFFFFFFL) + (y & 0xFFFFFFFFL) + c;
            long signed = (long) x + y + c;
            int sum = (int) unsigned;
            carry = unsigned >>> 32 != 0;
            overflow = signed != sum;
            return mark(sum);
        }

        int moveUp(int x, int by) {
            if (by != 0) {
                carry = by <= 32 && (x >>> 32 - by & 1) == 1;
            }
            return mark(by < 32 ? x << by : 0);
        }

        int moveDown(int x, int by) {
            if (by != 0) {
                carry = by <= 32 && (x >>> by - 1 & 1) == 1;
            }
            return mark(by < 32 ? x >>> by : 0);
        }

        int moveDownSigned(int x, int by) {
            if (by != 0) {
                carry = (x >> Math.min(by - 1, 31) & 1) == 1;
            }
            return mark(x >> Math.min(by, 31));
        }

        int turnRound(int x, int by) {
            int places = by & 31;
            int result = places == 0 ? x : x >>> places | x << 32 - places;
            if (by != 0) {
                carry = result < 0;
            }
            return mark(result);
        }

        /** Conditions 0 .. 13: the odd ones are the even ones turned. */
        boolean meet(int condition) {
            return even(condition >>> 1) != ((condition & 1) == 1);
        }

        private boolean even(int pair) {
            switch (pair) {
                case 0:
                    return zero;
                case 1:
                    return carry;
                case 2:
                    return negative;
                case 3:
                    return overflow;
                case 4:
                    return carry && !zero;
                case 5:
                    return negative == overflow;
                default:
                    return !zero && negative == overflow;
            }
        }
    }

    /** Which exceptions wait and which are active, bit e standing for exception e. */
    private static final class Exceptions {
        private static final int HIGHEST = 15;
        private static final int WITHOUT_ANY = 4;

        private final int[] priorities;
        private int pending;
        private int active;
        private int current;
        private boolean masked;

        Exceptions() {
            priorities = new int[HIGHEST + 1];
            priorities[2] = -2;
            priorities[FAULT] = -1;
        }

        void clear() {
            pending = 0;
            active = 0;
            current = 0;
            masked = false;
        }

        void await(int e) {
            pending |= 1 << e;
        }

        boolean isPending(int e) {
            return e >= 0 && e <= HIGHEST && (pending >>> e & 1) == 1;
        }

        boolean isActive(int e) {
            return e >= 0 && e <= HIGHEST && (active >>> e & 1) == 1;
        }

        int presentUnmasked() {
            int least = WITHOUT_ANY;
            for (int e = 0; e <= HIGHEST; e++) {
                if ((active >>> e & 1) == 1) {
                    least = Math.min(least, priorities[e]);
                }
            }
            return least;
        }

        int present() {
            int least = presentUnmasked();
            return masked ? Math.min(least, 0) : least;
        }

        /** Of the pending ones below a priority the least by priority, then by number; 0 without any. */
        int mostUrgent(int below) {
            int best = 0;
            int least = below;
            for (int e = 0; e <= HIGHEST; e++) {
                if ((pending >>> e & 1) == 1 && priorities[e] < least) {
                    best = e;
                    least = priorities[e];
                }
            }
            return best;
        }

        void begin(int e) {
            pending &= ~(1 << e);
            active |= 1 << e;
            current = e;
        }

        boolean mayEndLast(int told) {
            return told == 0 && Integer.bitCount(active) == 1;
        }

        boolean mayEndFor(int told) {
            return told != current && isActive(told) && Integer.bitCount(active) > 1;
        }

        void endFor(int told) {
            active &= ~(1 << current);
            current = told;
        }
    }

    /** Counts down to 0 and begins again at its reload number. */
    private static final class Counter {
        private int number;
        private int reload;
        private boolean on;

        void begin(int reload, boolean on) {
            number = 0;
            this.reload = reload;
            this.on = on;
        }

        /** One move, if it is on: whether it came down to 0. */
        boolean moves() {
            if (!on) {
                return false;
            }
            if (number == 0) {
                number = reload;
                return false;
            }
            number--;
            return number == 0;
        }
    }
}
