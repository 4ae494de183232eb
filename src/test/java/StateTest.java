/** Promises 1 to 4 and 7 to 14: what is held, read and set from outside. */
public final class StateTest {
    private static final Check CHECK = new Check();

    public static void main(String[] args) {
        newObject();
        poke();
        peek();
        reset();
        resetLeavesMemoryAndPriorities();
        register();
        set();
        status();
        about();
        pend();
        exception();
        priority();
        tick();
        CHECK.end();
    }

    /** Promise 1. */
    private static void newObject() {
        int[][] sizes = {
            {128, 128}, {131, 128}, {132, 132}, {135, 132}, {127, 128}, {0, 128}, {-1, 128}, {-4000, 128},
            {Integer.MIN_VALUE, 128}, {255, 252}, {1000, 1000}, {2047, 2044}, {2048, 2048}, {2049, 2048}, {2052, 2048},
            {Integer.MAX_VALUE, 2048}};
        for (int[] s : sizes) {
            ThumbCore x = new ThumbCore(s[0]);
            CHECK.due("last byte of " + s[0], x.peek(s[1] - 1), 0);
            CHECK.due("behind the last byte of " + s[0], x.peek(s[1]), ThumbCore.NONE);
        }
        ThumbCore x = new ThumbCore(128);
        for (int a = 0; a < 128; a++) CHECK.due("new byte", x.peek(a), 0);
        for (int k = 0; k < 16; k++) CHECK.due("new register", x.register(k), k == 14 ? -1 : 0);
        CHECK.due("new status", x.status(), 1 << 24);
        int[] want = {0, 0, 0, 0, 0, 0, 4};
        for (int w = 0; w < 7; w++) CHECK.due("new about " + w, x.about(w), want[w]);
        for (int e = 0; e < 16; e++) CHECK.due("new exception " + e, x.exception(e), 0);
    }

    /** Promise 2. */
    private static void poke() {
        ThumbCore x = new ThumbCore(128);
        CHECK.due("word", x.poke(8, 0x81828384, 4), true);
        CHECK.due("word's bytes", Bench.word(x, 8), 0x81828384);
        CHECK.due("lowest first", x.peek(8), 0x84);
        CHECK.due("half", x.poke(8, 0x11112222, 2), true);
        CHECK.due("half's bytes", Bench.word(x, 8), 0x81822222);
        CHECK.due("byte", x.poke(11, 0x777777FF, 1), true);
        CHECK.due("byte's bytes", Bench.word(x, 8), 0xFF822222);
        CHECK.due("across words", x.poke(21, 0x01020304, 4), true);
        CHECK.due("across words, low", Bench.word(x, 20), 0x02030400);
        CHECK.due("across words, high", Bench.word(x, 24), 0x00000001);
        CHECK.due("half across words", x.poke(31, 0xABCD, 2), true);
        CHECK.due("half across words, low", x.peek(31), 0xCD);
        CHECK.due("half across words, high", x.peek(32), 0xAB);
        CHECK.due("last word", x.poke(124, -1, 4), true);
        CHECK.due("last half", x.poke(126, 0, 2), true);
        CHECK.due("last byte", x.poke(127, 1, 1), true);
        CHECK.due("end", Bench.word(x, 124), 0x0100FFFF);
        for (int n : new int[] {0, 3, 5, 8, -1, -4, Integer.MIN_VALUE, Integer.MAX_VALUE}) CHECK.due("n " + n, x.poke(0, -1, n), false);
        for (int a : new int[] {128, -1, -4, Integer.MIN_VALUE, Integer.MAX_VALUE}) {
            for (int n : new int[] {1, 2, 4}) CHECK.due("outside", x.poke(a, -1, n), false);
        }
        CHECK.due("half outside", x.poke(127, -1, 2), false);
        for (int a = 125; a < 128; a++) CHECK.due("word outside", x.poke(a, -1, 4), false);
        CHECK.due("nothing was written at the end", Bench.word(x, 124), 0x0100FFFF);
        CHECK.due("nothing was written at the start", Bench.word(x, 0), 0);
    }

    /** Promise 3. */
    private static void peek() {
        ThumbCore x = new ThumbCore(128);
        x.poke(4, 0xFF807F01, 4);
        int[] want = {1, 127, 128, 255};
        for (int b = 0; b < 4; b++) CHECK.due("byte", x.peek(4 + b), want[b]);
        CHECK.due("last", x.peek(127), 0);
        for (int a : new int[] {128, 2048, -1, Integer.MIN_VALUE, Integer.MAX_VALUE}) CHECK.due("outside", x.peek(a), ThumbCore.NONE);
    }

    /** Promise 4, from a state where nothing is as reset leaves it. */
    private static void reset() {
        ThumbCore x = Bench.with(0xB672, 0xBF30);
        Bench.registers(x, 1, 2, 3, 4, 5, 6, 7, 8, 9, 10, 11, 12, 13);
        x.set(14, 77);
        Bench.flags(x, Bench.N | Bench.Z | Bench.C | Bench.V);
        x.pend(14);
        x.step();
        x.pend(15);
        x.tick(9, true);
        x.set(15, 64);
        x.run(3);
        CHECK.due("asleep before", x.about(3), 1);
        CHECK.due("MASK before", x.about(2), 1);
        CHECK.due("counter before", x.about(5) > 0, true);
        x.poke(0, 0xFFFFFFFF, 4);
        x.poke(4, 0xFFFFFFFF, 4);
        x.reset();
        for (int k = 0; k < 13; k++) CHECK.due("register " + k, x.register(k), 0);
        CHECK.due("SP", x.register(13), -4);
        CHECK.due("LR", x.register(14), -1);
        CHECK.due("PC", x.register(15), -2);
        CHECK.due("status", x.status(), 1 << 24);
        int[] want = {0, 0, 0, 0, 0, 0, 4};
        for (int w = 0; w < 7; w++) CHECK.due("about " + w, x.about(w), want[w]);
        for (int e = 0; e < 16; e++) CHECK.due("exception " + e, x.exception(e), 0);
        x.step();
        CHECK.due("a lockup, with this SP", x.about(4), 1);
        CHECK.due("the counter is off", x.about(5), 0);
        x.reset();
        CHECK.due("no lockup", x.about(4), 0);
    }

    private static void resetLeavesMemoryAndPriorities() {
        ThumbCore x = Bench.with(0xBF00, 0xBF00);
        x.priority(15, 1);
        x.priority(14, 2);
        x.poke(200, 99, 1);
        x.reset();
        CHECK.due("memory stays", x.peek(200), 99);
        x.pend(14);
        x.pend(15);
        x.step();
        CHECK.due("priorities stay", x.about(0), 15);
        CHECK.due("priority 1", x.about(6), 1);
        x.reset();
        x.tick(5, false);
        x.reset();
        x.step();
        CHECK.due("RELOAD is 0 and the counter off", x.about(5), 0);
    }

    /** Promise 7. */
    private static void register() {
        ThumbCore x = Bench.with();
        for (int k = 0; k < 13; k++) x.set(k, 100 + k);
        for (int k = 0; k < 13; k++) CHECK.due("register " + k, x.register(k), 100 + k);
        CHECK.due("SP", x.register(13), 240);
        CHECK.due("LR", x.register(14), -1);
        CHECK.due("PC", x.register(15), 64);
        for (int k : new int[] {-1, 16, 17, Integer.MIN_VALUE, Integer.MAX_VALUE}) CHECK.due("no register", x.register(k), 0);
    }

    /** Promise 8. */
    private static void set() {
        ThumbCore x = Bench.with();
        for (int k = 0; k < 16; k++) CHECK.due("set " + k, x.set(k, -1), true);
        for (int k = 0; k < 16; k++) CHECK.due("kept " + k, x.register(k), k == 13 ? -4 : k == 15 ? -2 : -1);
        x.set(13, 7);
        x.set(15, 7);
        x.set(14, 7);
        CHECK.due("SP", x.register(13), 4);
        CHECK.due("PC", x.register(15), 6);
        CHECK.due("LR", x.register(14), 7);
        for (int k : new int[] {-1, 16, Integer.MIN_VALUE, Integer.MAX_VALUE}) CHECK.due("no register", x.set(k, 1), false);
    }

    /** Promise 9. */
    private static void status() {
        for (int f = 0; f < 16; f++) {
            ThumbCore x = Bench.flags(Bench.with(), f << 28);
            CHECK.due("flags " + f, x.status(), f << 28 | 1 << 24);
            CHECK.due("back at the same place", x.register(15), 64);
        }
        for (int e : new int[] {2, 14, 15}) {
            ThumbCore x = Bench.flags(Bench.with(), Bench.C);
            x.pend(e);
            x.step();
            CHECK.due("in exception " + e, x.status(), Bench.C | 1 << 24 | e);
        }
    }

    /** Promise 10. */
    private static void about() {
        ThumbCore x = Bench.with(0xB672, 0xB662, 0xDF00);
        x.priority(11, 3);
        for (int what : new int[] {-1, 7, 8, Integer.MIN_VALUE, Integer.MAX_VALUE}) CHECK.due("about nothing", x.about(what), ThumbCore.NONE);
        x.step();
        CHECK.due("MASK", x.about(2), 1);
        CHECK.due("priority by MASK", x.about(6), 0);
        x.step();
        CHECK.due("MASK off", x.about(2), 0);
        CHECK.due("priority without MASK", x.about(6), 4);
        x.step();
        CHECK.due("current", x.about(0), 11);
        CHECK.due("priority of 11", x.about(6), 3);
        x.pend(14);
        x.step();
        CHECK.due("current", x.about(0), 14);
        CHECK.due("active", x.about(1), 2);
        CHECK.due("priority of 14", x.about(6), 0);
        Bench.code(x, Bench.handler(14), 0xDE00);
        x.step();
        CHECK.due("current", x.about(0), 3);
        CHECK.due("active", x.about(1), 3);
        CHECK.due("priority of 3", x.about(6), -1);
        x.pend(2);
        x.step();
        CHECK.due("current", x.about(0), 2);
        CHECK.due("active", x.about(1), 4);
        CHECK.due("priority of 2", x.about(6), -2);
        x.priority(14, 1);
        CHECK.due("MASK with less active", x.about(6), -2);
    }

    /** Promise 11. */
    private static void pend() {
        for (int e = -2; e < 70; e++) {
            ThumbCore x = Bench.with();
            boolean may = e == 2 || e == 14 || e == 15;
            CHECK.due("pend " + e, x.pend(e), may);
            for (int k = 0; k < 16; k++) CHECK.due("pending " + k, x.exception(k), may && k == e ? 1 : 0);
            CHECK.due("step", x.step(), may ? 1 : 0);
            CHECK.due("entered", x.about(0), may ? e : 0);
        }
        CHECK.due("pend", Bench.with().pend(Integer.MIN_VALUE), false);
        CHECK.due("pend", Bench.with().pend(Integer.MAX_VALUE), false);
    }

    /** Promise 12. */
    private static void exception() {
        ThumbCore x = Bench.with(0xDF00);
        x.priority(11, 1);
        x.step();
        CHECK.due("11", x.exception(11), 2);
        x.pend(14);
        CHECK.due("pending 14", x.exception(14), 1);
        x.step();
        CHECK.due("active 14", x.exception(14), 2);
        x.pend(14);
        CHECK.due("both", x.exception(14), 3);
        Bench.code(x, Bench.handler(14), 0xDE00);
        x.step();
        CHECK.due("3", x.exception(3), 2);
        CHECK.due("still both", x.exception(14), 3);
        for (int k : new int[] {-1, 0, 1, 2, 15, 16, 18, 34, 35, 43, 46, Integer.MIN_VALUE, Integer.MAX_VALUE}) {
            CHECK.due("nothing of " + k, x.exception(k), 0);
        }
    }

    /** Promise 13. */
    private static void priority() {
        ThumbCore x = Bench.with();
        for (int e = -2; e < 50; e++) {
            for (int p = -3; p < 6; p++) {
                boolean may = (e == 11 || e == 14 || e == 15) && p >= 0 && p <= 3;
                CHECK.due("priority " + e + " " + p, x.priority(e, p), may);
            }
        }
        CHECK.due("wild", x.priority(Integer.MAX_VALUE, 0), false);
        CHECK.due("wild", x.priority(14, Integer.MIN_VALUE), false);
        ThumbCore y = Bench.with();
        y.priority(14, 2);
        y.priority(14, 4);
        y.pend(14);
        y.step();
        CHECK.due("a refused one changes nothing", y.about(6), 2);
        y.priority(14, 1);
        CHECK.due("it counts at once", y.about(6), 1);
    }

    /** Promise 14. */
    private static void tick() {
        ThumbCore x = Bench.with();
        for (int r : new int[] {0, 1, 1000}) CHECK.due("tick " + r, x.tick(r, true), true);
        x.step();
        CHECK.due("1000", x.about(5), 1000);
        for (int r : new int[] {-1, 1001, Integer.MIN_VALUE, Integer.MAX_VALUE}) CHECK.due("tick " + r, x.tick(r, false), false);
        x.step();
        CHECK.due("a refused one changes nothing", x.about(5), 999);
        x.tick(3, true);
        CHECK.due("its number is 0", x.about(5), 0);
        int[] numbers = {3, 2, 1, 0, 3};
        int[] pending = {0, 0, 0, 1, 1};
        x.pend(2);
        x.step();
        x.tick(3, true);
        for (int i = 0; i < 5; i++) {
            x.step();
            CHECK.due("number", x.about(5), numbers[i]);
            CHECK.due("pending", x.exception(15), pending[i]);
        }
        x.tick(3, false);
        x.step();
        CHECK.due("off", x.about(5), 0);
        ThumbCore y = Bench.with();
        y.tick(0, true);
        y.run(5);
        CHECK.due("a RELOAD of 0 never makes 15 pending", y.exception(15), 0);
        y.tick(1, true);
        y.step();
        CHECK.due("not when it is reloaded", y.exception(15), 0);
        CHECK.due("when it comes to 0", y.step(), 1);
        CHECK.due("entered at once", y.exception(15), 2);
    }
}
