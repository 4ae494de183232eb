/** Cores for the tests: 256 bytes, SP 240, PC 64, and a handler of eight bytes for each exception. */
final class Bench {
    static final int[] EXCEPTIONS = {2, 3, 11, 14, 15};
    static final int N = 1 << 31;
    static final int Z = 1 << 30;
    static final int C = 1 << 29;
    static final int V = 1 << 28;
    private static final int STATUS = 1 << 24;

    /** Where the handler of an exception begins. */
    static int handler(int e) {
        return e < 4 ? 112 + 8 * e : 56 + 8 * e;
    }

    static ThumbCore with(int... halves) {
        ThumbCore x = new ThumbCore(256);
        x.poke(0, 240, 4);
        x.poke(4, 65, 4);
        for (int e : EXCEPTIONS) x.poke(4 * e, handler(e) + 1, 4);
        code(x, 64, halves);
        x.reset();
        return x;
    }

    static void code(ThumbCore x, int from, int... halves) {
        for (int i = 0; i < halves.length; i++) x.poke(from + 2 * i, halves[i], 2);
    }

    /** R0, R1, .. as given. */
    static ThumbCore registers(ThumbCore x, int... values) {
        for (int k = 0; k < values.length; k++) x.set(k, values[k]);
        return x;
    }

    /** Flags as given, by a return to the same place and registers: exception 14, its words changed, and back. */
    static ThumbCore flags(ThumbCore x, int flags) {
        x.pend(14);
        x.step();
        x.poke(x.register(13) + 28, flags | STATUS, 4);
        x.poke(handler(14), 0x4770, 2);
        x.step();
        return x;
    }

    static int flags(ThumbCore x) {
        return x.status() & (N | Z | C | V);
    }

    static int word(ThumbCore x, int a) {
        return x.peek(a) | x.peek(a + 1) << 8 | x.peek(a + 2) << 16 | x.peek(a + 3) << 24;
    }
}
