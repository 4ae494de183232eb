/** Promises 5 and 6 and the terms of exceptions: entering, coming back, priorities, sleep, lockup. */
public final class ExceptionTest {
    private static final Check CHECK = new Check();
    private static final int BACK = 0x4770;
    private static final int SLEEP = 0xBF30;
    private static final int NOTHING = 0xBF00;
    private static final int WRONG = 0xDE00;

    public static void main(String[] args) {
        entering();
        enteringFromUnevenStack();
        enteringOverVector();
        enteringAnother();
        enteringLocks();
        call();
        callFaults();
        callLocks();
        returning();
        returningByPop();
        returningToAnother();
        returningToOneNotLast();
        wrongReturns();
        goingWithLinkMayReturn();
        takingToPcIsNoReturn();
        order();
        mask();
        faultLocks();
        faultWithMask();
        lockupHoldsAll();
        sleep();
        sleepBehindMask();
        sleepByCounter();
        run();
        CHECK.end();
    }

    private static void words(String what, ThumbCore x, int from, int... want) {
        int[] got = new int[want.length];
        for (int w = 0; w < want.length; w++) got[w] = Bench.word(x, from + 4 * w);
        CHECK.due(what, got, want);
    }

    private static ThumbCore numbered(int... halves) {
        ThumbCore x = Bench.registers(Bench.with(halves), 10, 11, 12, 13, 14, 15, 16, 17, 18, 19, 20, 21, 22);
        x.set(14, 24);
        return x;
    }

    private static ThumbCore in(int... exceptions) {
        ThumbCore x = numbered(NOTHING);
        for (int e : exceptions) {
            x.pend(e);
            CHECK.due("entering " + e, x.step(), 1);
        }
        return x;
    }

    private static void entering() {
        for (int e : new int[] {2, 14, 15}) {
            ThumbCore x = Bench.flags(numbered(NOTHING), Bench.Z | Bench.V);
            x.pend(e);
            CHECK.due("step", x.step(), 1);
            words("laid down", x, 208, 10, 11, 12, 13, 22, 24, 64, Bench.Z | Bench.V | 1 << 24);
            CHECK.due("below is untouched", Bench.word(x, 204), 0);
            CHECK.due("SP", x.register(13), 208);
            CHECK.due("LR", x.register(14), -7);
            CHECK.due("PC", x.register(15), Bench.handler(e));
            CHECK.due("active, not pending", x.exception(e), 2);
            CHECK.due("current", x.about(0), e);
            CHECK.due("flags stay", Bench.flags(x), Bench.Z | Bench.V);
            for (int k = 0; k < 13; k++) CHECK.due("register stays", x.register(k), 10 + k);
        }
    }

    private static void enteringFromUnevenStack() {
        ThumbCore x = numbered(NOTHING);
        x.set(13, 236);
        x.poke(232, 0x5A5A5A5A, 4);
        x.pend(14);
        x.step();
        CHECK.due("SP", x.register(13), 200);
        words("laid down", x, 200, 10, 11, 12, 13, 22, 24, 64, 1 << 24 | 512, 0x5A5A5A5A);
        Bench.code(x, Bench.handler(14), BACK);
        x.step();
        CHECK.due("SP is back", x.register(13), 236);
        CHECK.due("bit 9 is not in the status", x.status(), 1 << 24);
    }

    private static void enteringOverVector() {
        ThumbCore x = numbered(NOTHING);
        x.set(13, 64);
        x.pend(15);
        CHECK.due("step", x.step(), 1);
        CHECK.due("PC as the word was before", x.register(15), Bench.handler(15));
        CHECK.due("the word is another one now", Bench.word(x, 60), 1 << 24);
    }

    private static void enteringAnother() {
        ThumbCore x = in(14);
        x.pend(2);
        x.step();
        CHECK.due("LR", x.register(14), -15);
        CHECK.due("SP", x.register(13), 176);
        words("laid down", x, 176, 10, 11, 12, 13, 22, -7, Bench.handler(14), 1 << 24 | 14);
        CHECK.due("current", x.about(0), 2);
        CHECK.due("active", x.about(1), 2);
    }

    private static void enteringLocks() {
        for (int sp : new int[] {28, 0, 4, 260 + 28, 264, 1000, -4, Integer.MIN_VALUE}) {
            ThumbCore x = numbered(NOTHING);
            x.set(13, sp);
            x.pend(14);
            CHECK.due("step with SP " + sp, x.step(), 3);
            CHECK.due("lockup", x.about(4), 1);
            CHECK.due("not entered", x.exception(14), 1);
            CHECK.due("SP stays", x.register(13), sp);
            CHECK.due("PC stays", x.register(15), 64);
            CHECK.due("LR stays", x.register(14), 24);
        }
        for (int sp : new int[] {32, 36, 40, 256, 260}) {
            ThumbCore x = numbered(NOTHING);
            x.set(13, sp);
            x.pend(14);
            CHECK.due("step with SP " + sp, x.step(), 1);
        }
        ThumbCore even = numbered(NOTHING);
        even.poke(56, Bench.handler(14), 4);
        even.pend(14);
        CHECK.due("step with an even word", even.step(), 3);
        CHECK.due("nothing is laid down", Bench.word(even, 208), 0);
    }

    private static void call() {
        ThumbCore x = numbered(0xDF00);
        CHECK.due("step", x.step(), 0);
        CHECK.due("current", x.about(0), 11);
        CHECK.due("PC", x.register(15), Bench.handler(11));
        words("the address behind", x, 232, 66);
        Bench.code(x, Bench.handler(11), BACK);
        x.step();
        CHECK.due("back behind it", x.register(15), 66);
        for (int h : new int[] {0xDF01, 0xDFFF}) {
            ThumbCore y = numbered(h);
            y.step();
            CHECK.due("every call is one", y.about(0), 11);
        }
    }

    private static void callFaults() {
        ThumbCore x = numbered(0xB672, 0xDF00);
        x.run(2);
        CHECK.due("with MASK", x.about(0), 3);
        words("from its own address", x, 232, 66);
        ThumbCore y = in(14);
        Bench.code(y, Bench.handler(14), 0xDF00);
        y.step();
        CHECK.due("with the same priority", y.about(0), 3);
        ThumbCore z = numbered(NOTHING);
        z.priority(14, 1);
        z.pend(14);
        z.step();
        Bench.code(z, Bench.handler(14), 0xDF00);
        z.step();
        CHECK.due("with a lower priority", z.about(0), 11);
        z.poke(Bench.handler(11), 0xDF00, 2);
        z.step();
        CHECK.due("in a call", z.about(0), 3);
        z.poke(Bench.handler(3), 0xDF00, 2);
        CHECK.due("in a fault", z.step(), 3);
    }

    private static void callLocks() {
        ThumbCore x = numbered(0xDF00);
        x.poke(44, 0, 4);
        CHECK.due("step", x.step(), 3);
        CHECK.due("not active", x.exception(11), 0);
        CHECK.due("PC stays", x.register(15), 64);
    }

    private static void returning() {
        ThumbCore x = Bench.flags(numbered(NOTHING), Bench.N | Bench.C);
        x.pend(14);
        x.step();
        Bench.registers(x, 1, 2, 3, 4, 5, 6, 7, 8, 9, 10, 11, 12, 13);
        Bench.code(x, Bench.handler(14), 0x2D06, BACK);
        x.step();
        CHECK.due("flags in it", Bench.flags(x), Bench.Z | Bench.C);
        CHECK.due("step", x.step(), 0);
        int[] want = {10, 11, 12, 13, 5, 6, 7, 8, 9, 10, 11, 12, 22, 240, 24, 64};
        for (int k = 0; k < 16; k++) CHECK.due("register " + k, x.register(k), want[k]);
        CHECK.due("status", x.status(), Bench.N | Bench.C | 1 << 24);
        CHECK.due("active no more", x.exception(14), 0);
        CHECK.due("present priority", x.about(6), 4);
        ThumbCore y = in(14);
        for (int w = 0; w < 8; w++) y.poke(208 + 4 * w, w == 7 ? 0xF1000200 : 101 + w, 4);
        Bench.code(y, Bench.handler(14), BACK);
        y.step();
        int[] read = {101, 102, 103, 104, 14, 15, 16, 17, 18, 19, 20, 21, 105, 244, 106, 106};
        for (int k = 0; k < 16; k++) CHECK.due("as laid down: " + k, y.register(k), read[k]);
        CHECK.due("flags as laid down", y.status(), 0xF1000000);
    }

    private static void returningByPop() {
        ThumbCore x = in(14);
        Bench.code(x, Bench.handler(14), 0xB531, 0xBD31);
        x.step();
        Bench.registers(x, 1, 2, 3, 4, 5, 6);
        CHECK.due("step", x.step(), 0);
        int[] want = {10, 11, 12, 13, 14, 15, 16, 17, 18, 19, 20, 21, 22, 240, 24, 64};
        for (int k = 0; k < 16; k++) CHECK.due("register " + k, x.register(k), want[k]);
        ThumbCore y = in(14);
        Bench.code(y, Bench.handler(14), 0xB510, 0xBD10);
        y.step();
        y.set(4, 99);
        y.poke(208 + 28, 14, 4);
        y.step();
        CHECK.due("a return that may not be is a fault", y.about(0), 3);
        CHECK.due("nothing is read", y.register(4), 99);
        CHECK.due("laid below the SP that was", y.register(13), 200 - 32);
    }

    private static void returningToAnother() {
        ThumbCore x = in(14, 2);
        Bench.code(x, Bench.handler(2), BACK);
        Bench.code(x, Bench.handler(14), BACK);
        x.step();
        CHECK.due("current", x.about(0), 14);
        CHECK.due("active", x.about(1), 1);
        CHECK.due("LR", x.register(14), -7);
        CHECK.due("PC", x.register(15), Bench.handler(14));
        CHECK.due("status", x.status(), 1 << 24 | 14);
        x.step();
        CHECK.due("current", x.about(0), 0);
        CHECK.due("PC", x.register(15), 64);
        CHECK.due("LR", x.register(14), 24);
        CHECK.due("SP", x.register(13), 240);
    }

    /** 15 in 14 in 2 is not by priority; so: 15 (1), 14 (0), 2; the words of 2 are made to tell 15. */
    private static void returningToOneNotLast() {
        ThumbCore x = numbered(NOTHING);
        x.priority(15, 1);
        for (int e : new int[] {15, 14, 2}) {
            x.pend(e);
            x.step();
        }
        CHECK.due("active", x.about(1), 3);
        x.poke(x.register(13) + 28, 1 << 24 | 15, 4);
        Bench.code(x, Bench.handler(2), BACK);
        x.step();
        CHECK.due("the one that is told is current", x.about(0), 15);
        CHECK.due("14 is active still", x.exception(14), 2);
        CHECK.due("present priority", x.about(6), 0);
        x.set(14, -15);
        x.poke(x.register(13) + 28, 1 << 24 | 14, 4);
        x.set(15, Bench.handler(2));
        x.step();
        CHECK.due("and back to 14", x.about(0), 14);
        CHECK.due("15 is active no more", x.exception(15), 0);
    }

    private static void wrongReturn(String what, ThumbCore x, int to) {
        int active = x.about(1);
        x.set(14, to);
        int sp = x.register(13);
        Bench.code(x, x.register(15), BACK);
        int at = x.register(15);
        x.step();
        CHECK.due(what + ": a fault", x.about(0), 3);
        CHECK.due(what + ": none ended", x.about(1), active + 1);
        CHECK.due(what + ": SP", x.register(13), sp - 32);
        words(what + ": laid down", x, sp - 12, to, at);
    }

    private static ThumbCore told(int status, int... exceptions) {
        ThumbCore x = in(exceptions);
        x.poke(x.register(13) + 28, status, 4);
        return x;
    }

    private static void wrongReturns() {
        wrongReturn("-15 with one", in(14), -15);
        wrongReturn("-15 with one, telling it", told(14, 14), -15);
        wrongReturn("-7 telling one", told(14, 14), -7);
        wrongReturn("-7 telling bit 5", told(32, 14), -7);
        wrongReturn("even", in(14), -8);
        for (int t : new int[] {0, 14, 2, 11, 3, 46, 47, 63}) {
            ThumbCore x = numbered(NOTHING);
            x.priority(15, 1);
            x.pend(15);
            x.step();
            x.pend(14);
            x.step();
            x.poke(x.register(13) + 28, t, 4);
            wrongReturn("-15 telling " + t, x, -15);
        }
        ThumbCore two = numbered(NOTHING);
        two.priority(15, 1);
        two.pend(15);
        two.step();
        two.pend(14);
        two.step();
        two.poke(two.register(13) + 28, 0, 4);
        wrongReturn("-7 with two", two, -7);
        ThumbCore high = in(14);
        high.set(13, 228);
        Bench.code(high, Bench.handler(14), BACK);
        high.step();
        CHECK.due("words that are not there", high.about(0), 3);
        ThumbCore bits = told(64 | 1 << 8, 14);
        Bench.code(bits, Bench.handler(14), BACK);
        bits.step();
        CHECK.due("only six bits tell", bits.about(0), 0);
        for (int v : new int[] {-3, -5, -11, -13, -17}) {
            ThumbCore x = in(14);
            x.set(14, v);
            Bench.code(x, Bench.handler(14), BACK);
            x.step();
            CHECK.due("another number is a place", x.register(15), v - 1);
            CHECK.due("and no return", x.about(0), 14);
        }
    }

    private static void goingWithLinkMayReturn() {
        ThumbCore x = in(14);
        Bench.code(x, Bench.handler(14), 0x47F0);
        CHECK.due("step", x.step(), 0);
        CHECK.due("PC", x.register(15), 64);
        CHECK.due("LR as laid down", x.register(14), 24);
        CHECK.due("active no more", x.about(0), 0);
        ThumbCore y = in(14);
        Bench.registers(y, 0, 121);
        Bench.code(y, Bench.handler(14), 0x4788);
        y.step();
        CHECK.due("to a place, PC", y.register(15), 120);
        CHECK.due("to a place, LR", y.register(14), Bench.handler(14) + 3);
        CHECK.due("to a place, active still", y.about(0), 14);
    }

    private static void takingToPcIsNoReturn() {
        ThumbCore x = in(14);
        Bench.code(x, Bench.handler(14), 0x46F7);
        x.step();
        CHECK.due("PC", x.register(15), -8);
        CHECK.due("active still", x.about(0), 14);
    }

    private static void order() {
        ThumbCore x = numbered(NOTHING);
        for (int e : new int[] {15, 14, 2}) x.pend(e);
        CHECK.due("step", x.step(), 1);
        CHECK.due("2 is the first", x.about(0), 2);
        CHECK.due("nothing more is entered in it", x.step(), 0);
        ThumbCore y = numbered(NOTHING);
        y.pend(15);
        y.pend(14);
        y.step();
        CHECK.due("by number", y.about(0), 14);
        y.step();
        CHECK.due("the same priority waits", y.about(0), 14);
        CHECK.due("15 waits", y.exception(15), 1);
        ThumbCore z = numbered(NOTHING);
        z.priority(14, 3);
        z.priority(15, 2);
        z.pend(14);
        z.pend(15);
        z.step();
        CHECK.due("by priority", z.about(0), 15);
        z.priority(14, 1);
        CHECK.due("a priority that is now below", z.step(), 1);
        CHECK.due("14", z.about(0), 14);
        ThumbCore again = in(14);
        again.pend(14);
        CHECK.due("not in itself", again.step(), 0);
        Bench.code(again, Bench.handler(14), BACK);
        again.set(15, Bench.handler(14));
        again.step();
        CHECK.due("once more behind it", again.step(), 1);
    }

    private static void mask() {
        ThumbCore x = numbered(0xB672, NOTHING, 0xB662, NOTHING);
        x.step();
        x.pend(15);
        CHECK.due("MASK holds 15 back", x.step(), 0);
        x.pend(2);
        CHECK.due("but not 2", x.step(), 1);
        CHECK.due("2", x.about(0), 2);
        Bench.code(x, Bench.handler(2), BACK);
        x.step();
        CHECK.due("MASK stays over a return", x.about(2), 1);
        CHECK.due("MASK off", x.step(), 0);
        CHECK.due("now 15", x.step(), 1);
        CHECK.due("15", x.about(0), 15);
        words("from the address behind", x, x.register(13) + 24, 70);
    }

    private static void faultLocks() {
        ThumbCore x = numbered(WRONG);
        CHECK.due("a fault", x.step(), 0);
        Bench.code(x, Bench.handler(3), WRONG);
        CHECK.due("a fault in a fault", x.step(), 3);
        CHECK.due("PC stays", x.register(15), Bench.handler(3));
        CHECK.due("SP stays", x.register(13), 208);
        CHECK.due("one is active", x.about(1), 1);
        ThumbCore y = in(2);
        Bench.code(y, Bench.handler(2), WRONG);
        CHECK.due("a fault in 2", y.step(), 3);
        CHECK.due("3 is not active", y.exception(3), 0);
        ThumbCore z = numbered(WRONG);
        z.poke(12, Bench.handler(3), 4);
        CHECK.due("an even word at 12", z.step(), 3);
        CHECK.due("not entered", z.about(0), 0);
        ThumbCore in14 = in(14);
        Bench.code(in14, Bench.handler(14), WRONG);
        CHECK.due("a fault in 14", in14.step(), 0);
        CHECK.due("LR", in14.register(14), -15);
    }

    private static void faultWithMask() {
        ThumbCore x = numbered(0xB672, WRONG);
        x.run(2);
        CHECK.due("entered all the same", x.about(0), 3);
        CHECK.due("MASK is on", x.about(2), 1);
        CHECK.due("present priority", x.about(6), -1);
        x.pend(2);
        CHECK.due("2 in 3", x.step(), 1);
    }

    private static void lockupHoldsAll() {
        ThumbCore x = numbered(WRONG);
        x.poke(12, 0, 4);
        x.tick(7, true);
        x.step();
        CHECK.due("lockup", x.about(4), 1);
        CHECK.due("the counter moved before", x.about(5), 7);
        x.pend(2);
        for (int i = 0; i < 3; i++) CHECK.due("step", x.step(), 3);
        CHECK.due("run", x.run(9), 0);
        CHECK.due("the counter stands", x.about(5), 7);
        CHECK.due("2 waits", x.exception(2), 1);
        x.poke(12, Bench.handler(3) + 1, 4);
        CHECK.due("step", x.step(), 3);
        CHECK.due("set", x.set(15, 80), true);
        CHECK.due("PC", x.register(15), 80);
        x.reset();
        CHECK.due("only a reset leads out", x.step(), 0);
    }

    private static void sleep() {
        ThumbCore x = numbered(SLEEP, NOTHING);
        CHECK.due("falling asleep", x.step(), 0);
        for (int i = 0; i < 3; i++) CHECK.due("asleep", x.step(), 2);
        CHECK.due("PC", x.register(15), 66);
        x.pend(14);
        CHECK.due("asleep until the step", x.about(3), 1);
        CHECK.due("woken", x.step(), 1);
        CHECK.due("awake", x.about(3), 0);
        words("from behind the sleep", x, 232, 66);
        ThumbCore y = numbered(NOTHING);
        y.pend(14);
        y.step();
        Bench.code(y, Bench.handler(14), SLEEP);
        y.pend(15);
        CHECK.due("falling asleep in 14", y.step(), 0);
        CHECK.due("15 does not wake it", y.step(), 2);
        y.pend(2);
        CHECK.due("2 does", y.step(), 1);
        ThumbCore z = numbered(0xB672, SLEEP, NOTHING);
        z.step();
        z.pend(14);
        CHECK.due("falling asleep with one pending", z.step(), 0);
        CHECK.due("asleep in between", z.about(3), 1);
        CHECK.due("awake at once", z.step(), 0);
        ThumbCore locked = numbered(SLEEP);
        locked.step();
        locked.poke(56, 0, 4);
        locked.pend(14);
        CHECK.due("woken into a lockup", locked.step(), 3);
        CHECK.due("awake", locked.about(3), 0);
    }

    private static void sleepBehindMask() {
        ThumbCore x = numbered(0xB672, SLEEP, NOTHING, 0xB662);
        CHECK.due("to sleep", x.run(9), 2);
        x.pend(15);
        CHECK.due("awake, but not entered", x.step(), 0);
        CHECK.due("PC", x.register(15), 70);
        CHECK.due("15 waits", x.exception(15), 1);
        CHECK.due("MASK off", x.step(), 0);
        CHECK.due("entered", x.step(), 1);
    }

    private static void sleepByCounter() {
        ThumbCore x = numbered(SLEEP, NOTHING);
        x.tick(4, true);
        int[] want = {0, 2, 2, 2, 1};
        int[] numbers = {4, 3, 2, 1, 0};
        for (int i = 0; i < 5; i++) {
            CHECK.due("step " + i, x.step(), want[i]);
            CHECK.due("number " + i, x.about(5), numbers[i]);
        }
        CHECK.due("15", x.about(0), 15);
    }

    /** Promise 6. */
    private static void run() {
        ThumbCore x = numbered(0xE7FE);
        for (int n : new int[] {0, 1, 99, 100}) CHECK.due("run " + n, x.run(n), n);
        for (int n : new int[] {-1, 101, Integer.MIN_VALUE, Integer.MAX_VALUE}) CHECK.due("run " + n, x.run(n), ThumbCore.NONE);
        ThumbCore y = numbered(0x3001, 0x3001, 0x3001, SLEEP, 0x3001);
        CHECK.due("two steps", y.run(2), 2);
        CHECK.due("R0", y.register(0), 12);
        CHECK.due("until asleep", y.run(50), 2);
        CHECK.due("R0", y.register(0), 13);
        CHECK.due("asleep", y.run(50), 0);
        y.pend(15);
        Bench.code(y, Bench.handler(15), BACK);
        CHECK.due("an exception counts", y.run(3), 3);
        CHECK.due("R0", y.register(0), 14);
        ThumbCore z = numbered(NOTHING, WRONG);
        Bench.code(z, Bench.handler(3), WRONG);
        CHECK.due("until a lockup", z.run(50), 2);
        CHECK.due("lockup", z.about(4), 1);
        ThumbCore none = numbered(0x3001);
        none.tick(5, true);
        none.run(101);
        none.run(0);
        CHECK.due("nothing done", none.register(0), 10);
        CHECK.due("no tick", none.about(5), 0);
    }
}
