/** The boundary cases of promises 1 to 14, in their order. */
public final class PromiseBoundaryTest {
    private static final int MIN = Integer.MIN_VALUE;
    private static final int MAX = Integer.MAX_VALUE;
    private static final int SIZE = Setup.SIZE;
    private static final int NONE = ThumbCore.NONE;

    public static void main(String[] args) throws IllegalAccessException {
        Boundaries.run(PromiseBoundaryTest.class);
    }

    private interface Call {
        int on(ThumbCore x);
    }

    /** A call's answer, and that nothing is otherwise behind it: so it must be if the call is refused. */
    private static void changesNothing(Setup setup, Call call, int answer) {
        changes(setup, call, answer, "");
    }

    /** A call's answer, and all that is otherwise behind it. */
    private static void changes(Setup setup, Call call, int answer, String changes) {
        Sight want = setup.sight().but(changes);
        ThumbCore x = setup.make();
        Boundaries.due("answer", call.on(x), answer);
        Boundaries.due("behind the call", want.otherwise(Sight.of(x, setup.size)), "");
    }

    private static int truth(boolean answer) {
        return answer ? 1 : 0;
    }

    @Sentence("An object is used for at most 512 calls after it has been made")
    static void theLastOf512CallsIsAsGoodAsTheFirst() {
        ThumbCore x = new ThumbCore(128);
        x.poke(0, 128, 4);
        x.poke(64, Code.wide(6, 0, 1), 2);
        x.poke(66, Code.jump(-3), 2);
        x.set(15, 64);
        for (int call = 5; call <= 511; call++) Boundaries.due("run", x.run(100), 100);
        Boundaries.due("the 512th call", x.register(0), 507 * 50);
    }

    // Promise 1.

    private static void sizeIs(int size, int bytes) {
        ThumbCore x = new ThumbCore(size);
        Boundaries.due("last byte of " + size, x.peek(bytes - 1), 0);
        Boundaries.due("behind the last byte of " + size, x.peek(bytes), NONE);
    }

    @Sentence("SIZE is size without its two lowest bits")
    static void sizeWithoutItsTwoLowestBits() {
        for (int low = 0; low < 4; low++) {
            sizeIs(132 + low, 132);
            sizeIs(2044 + low, 2044);
            sizeIs(1000 + low, 1000);
        }
    }

    @Sentence("but 128 if that is less")
    static void aSizeThatIsTooSmall() {
        for (int size : new int[] {127, 124, 4, 3, 1, 0, -1, -4, -128, -2048, MIN, MIN + 3}) sizeIs(size, 128);
        for (int size : new int[] {128, 129, 130, 131}) sizeIs(size, 128);
    }

    @Sentence("and 2048 if that is more")
    static void aSizeThatIsTooLarge() {
        for (int size : new int[] {2048, 2049, 2051, 2052, 4096, 65536, MAX, MAX - 3}) sizeIs(size, 2048);
    }

    @Sentence("All bytes are 0; as behind reset().")
    static void aNewObject() {
        ThumbCore x = new ThumbCore(128);
        for (int a = 0; a < 128; a++) Boundaries.due("byte " + a, x.peek(a), 0);
        ThumbCore y = new ThumbCore(128);
        for (int k = 0; k < 16; k++) Boundaries.due("register " + k, y.register(k), k == 14 ? -1 : 0);
        Boundaries.due("status", y.status(), 1 << 24);
        for (int what = 0; what < 7; what++) Boundaries.due("about " + what, y.about(what), what == 6 ? 4 : 0);
        for (int e = 0; e < 16; e++) Boundaries.due("exception " + e, y.exception(e), 0);
    }

    /** SP and the word at 12 are 0, so that the first fault is a lockup; the half 0 is an instruction. */
    @Sentence("All bytes are 0; as behind reset().")
    static void aNewObjectRunsToItsEndAndLocks() {
        ThumbCore x = new ThumbCore(0);
        Boundaries.due("run", x.run(100), 64);
        Boundaries.due("lockup", x.about(4), 1);
        Boundaries.due("PC", x.register(15), 128);
        Boundaries.due("Z", x.status(), 1 << 24 | 1 << 30);
    }

    // Promise 2.

    @Sentence("The n lowest bytes (1, 2 or 4) of value are written from an address on, the lowest first: true.")
    static void pokeOf1And2And4Bytes() {
        changes(Setup.of(), x -> truth(x.poke(200, 0x81828384, 1)), 1, "@200=0x84");
        changes(Setup.of(), x -> truth(x.poke(200, 0x81828384, 2)), 1, "@200=0x8384");
        changes(Setup.of(), x -> truth(x.poke(200, 0x81828384, 4)), 1, "@200=0x81828384");
        changes(Setup.of().word(200, -1), x -> truth(x.poke(201, 0, 1)), 1, "@200=0xFFFF00FF");
        changes(Setup.of().word(200, -1), x -> truth(x.poke(201, 0, 2)), 1, "@200=0xFF0000FF");
    }

    @Sentence("False if n is not so")
    static void pokeOfAnotherNumberOfBytes() {
        for (int n : new int[] {0, 3, 5, 8, 16, -1, -2, -4, MIN, MAX}) changesNothing(Setup.of(), x -> truth(x.poke(200, -1, n)), 0);
    }

    @Sentence("or they are not all in memory")
    static void pokeUpToTheLastByte() {
        changes(Setup.of(), x -> truth(x.poke(SIZE - 1, -1, 1)), 1, "@284=0xFF000000");
        changes(Setup.of(), x -> truth(x.poke(SIZE - 2, -1, 2)), 1, "@284=0xFFFF0000");
        changes(Setup.of(), x -> truth(x.poke(SIZE - 4, -1, 4)), 1, "@284=-1");
        changes(Setup.of(), x -> truth(x.poke(0, -1, 1)), 1, "@0=511");
    }

    @Sentence("or they are not all in memory")
    static void pokeOverTheLastByte() {
        for (int n : new int[] {1, 2, 4}) {
            for (int a = SIZE - n + 1; a <= SIZE; a++) {
                int at = a;
                changesNothing(Setup.of(), x -> truth(x.poke(at, -1, n)), 0);
            }
        }
    }

    @Sentence("or they are not all in memory")
    static void pokeBelowTheFirstByte() {
        for (int n : new int[] {1, 2, 4}) {
            for (int at : new int[] {-1, -2, -3, -4, MIN, MAX, MAX - 1, MAX - 3}) {
                changesNothing(Setup.of(), x -> truth(x.poke(at, -1, n)), 0);
            }
        }
    }

    @Sentence("(any address will do otherwise)")
    static void pokeAtAnAddressThatIsNotDivided() {
        changes(Setup.of(), x -> truth(x.poke(201, 0x04030201, 4)), 1, "@200=0x03020100 @204=4");
        changes(Setup.of(), x -> truth(x.poke(202, 0x04030201, 4)), 1, "@200=0x02010000 @204=0x0403");
        changes(Setup.of(), x -> truth(x.poke(203, 0x04030201, 4)), 1, "@200=0x01000000 @204=0x040302");
        changes(Setup.of(), x -> truth(x.poke(203, 0x0201, 2)), 1, "@200=0x01000000 @204=2");
    }

    // Promise 3.

    @Sentence("The byte at an address, 0 .. 255")
    static void peekOfTheLeastAndTheLargestByte() {
        ThumbCore x = Setup.of().word(284, 0xFF807F00).make();
        int[] want = {0, 127, 128, 255};
        for (int b = 0; b < 4; b++) Boundaries.due("byte", x.peek(284 + b), want[b]);
        Boundaries.due("the first", x.peek(0), Setup.SP % 256);
    }

    @Sentence("NONE if there is none")
    static void peekOfNoByte() {
        for (int a : new int[] {SIZE, SIZE + 1, 2048, MAX, MIN, -1, -SIZE}) Boundaries.due("at " + a, Setup.of().make().peek(a), NONE);
        Boundaries.due("behind the largest memory", new ThumbCore(MAX).peek(2048), NONE);
    }

    @Sentence("`NONE = -1`: Nothing there.")
    static void noneIsMinus1() {
        Boundaries.due("NONE", NONE, -1);
    }

    // Promise 4.

    /** Everything that a reset must bring back is otherwise. */
    private static Setup used() {
        Setup s = Setup.of().numbered().flags("NZCV").priority(14, 2).priority(15, 1);
        return s.in(14).here(Code.MASK_ON, Code.SLEEP).tick(9, true).step().step().pend(2).pend(15);
    }

    private static final String AS_NEW = "R0=0 R1=0 R2=0 R3=0 R4=0 R5=0 R6=0 R7=0 R8=0 R9=0 R10=0 R11=0 R12=0 LR=-1 flags= MASK=0"
        + " counter=0 asleep=0 lockup=0 e2=0 e3=0 e11=0 e14=0 e15=0 current=0 active=0 present=4";

    private static int reset(ThumbCore x) {
        x.reset();
        return 0;
    }

    @Sentence("LR is -1, other registers 0, flags, MASK, counter and RELOAD off and 0; no exception is pending or active; awake, no lockup.")
    static void resetFromAStateWhereAllIsOtherwise() {
        changes(used(), PromiseBoundaryTest::reset, 0, AS_NEW + " SP=280 PC=64");
    }

    @Sentence("SP and PC become the words at 0 and 4, without their two lowest bits, and lowest one")
    static void resetWithoutTheLowestBits() {
        changes(used().word(0, -1).word(4, -1), PromiseBoundaryTest::reset, 0, AS_NEW + " SP=-4 PC=-2");
        changes(used().word(0, 203).word(4, 203), PromiseBoundaryTest::reset, 0, AS_NEW + " SP=200 PC=202");
        changes(used().word(0, 0).word(4, 0), PromiseBoundaryTest::reset, 0, AS_NEW + " SP=0 PC=0");
        changes(used().word(0, MIN).word(4, MAX), PromiseBoundaryTest::reset, 0, AS_NEW + " SP=" + MIN + " PC=" + (MAX - 1));
    }

    @Sentence("counter and RELOAD off and 0")
    static void resetTurnsTheCounterOff() {
        Setup s = Setup.of(Code.NOTHING, Code.NOTHING).tick(5, true).step().does(ThumbCore::reset);
        Boundaries.made(s, "");
    }

    @Sentence("no exception is pending or active")
    static void resetForgetsEveryException() {
        Setup s = Setup.of().priority(15, 2).priority(14, 1).in(15, 14, 11, 3, 2).pend(2).pend(14).pend(15);
        changes(s, PromiseBoundaryTest::reset, 0, AS_NEW + " SP=280 PC=64");
    }

    @Sentence("awake, no lockup")
    static void resetLeadsOutOfALockup() {
        Setup s = Setup.of(Code.WRONG).word(12, 0).step();
        Boundaries.due("lockup", s.make().about(4), 1);
        changes(s, PromiseBoundaryTest::reset, 0, AS_NEW + " SP=280 PC=64");
        Boundaries.fault(s.does(ThumbCore::reset).word(12, 101));
    }

    @Sentence("awake, no lockup")
    static void resetWakes() {
        Setup s = Setup.of(Code.SLEEP).step().does(ThumbCore::reset);
        Boundaries.made(s, "asleep=1");
    }

    @Sentence("Memory and priorities stay.")
    static void resetLeavesPriorities() {
        Setup s = Setup.of(Code.CALL).priority(11, 3).priority(14, 2).priority(15, 1).does(ThumbCore::reset);
        Boundaries.calls(s, 3);
        s.does(ThumbCore::reset).pend(14);
        Boundaries.enters(s, 14, 2, "");
        s.does(ThumbCore::reset).pend(14).pend(15);
        Boundaries.enters(s, 15, 1, "");
    }

    // Promise 5.

    @Sentence("A step: 0 if an instruction was made (or a fault of it entered, or it was a CALL)")
    static void stepAnswers0() {
        Boundaries.made(Setup.of(Code.NOTHING), "");
        Boundaries.fault(Setup.of(Code.WRONG));
        Boundaries.calls(Setup.of(Code.CALL), 0);
        Boundaries.made(Setup.of(Code.SLEEP), "asleep=1");
    }

    @Sentence("1 if an exception was entered that was pending")
    static void stepAnswers1() {
        for (int e : new int[] {2, 14, 15}) Boundaries.enters(Setup.of(Code.NOTHING).pend(e), e, e == 2 ? -2 : 0, "");
        Boundaries.enters(Setup.of(Code.NOTHING).tick(1, true).step(), 15, 0, "counter=0");
    }

    @Sentence("2 if it is asleep")
    static void stepAnswers2() {
        Boundaries.step(Setup.of(Code.SLEEP).step(), 2, "");
    }

    @Sentence("3 if there is a lockup now")
    static void stepAnswers3() {
        Setup fault = Setup.of(Code.WRONG).word(12, 0);
        Boundaries.locks(fault);
        Boundaries.step(fault.step(), 3, "");
        Boundaries.locks(Setup.of().word(56, 0).pend(14));
        Boundaries.locks(Setup.of(Code.CALL).word(44, 0));
    }

    // Promise 6.

    @Sentence("NONE if n is not 0 .. 100.")
    static void runOfTooFewAndTooMany() {
        Setup s = Setup.of(Code.wide(6, 0, 1), Code.jump(-3)).tick(5, true);
        for (int n : new int[] {-1, 101, 102, -100, MIN, MAX}) changesNothing(s, x -> x.run(n), NONE);
    }

    @Sentence("Up to n steps")
    static void runOfNoneAndOfTheMost() {
        Setup s = Setup.of(Code.wide(6, 0, 1), Code.jump(-3));
        changesNothing(s, x -> x.run(0), 0);
        changes(s, x -> x.run(1), 1, "R0=1 PC=66");
        changes(s, x -> x.run(99), 99, "R0=50 PC=66");
        changes(s, x -> x.run(100), 100, "R0=50");
    }

    @Sentence("as long as they are not 2 or 3: how many were 0 or 1")
    static void runUpToSleep() {
        Setup s = Setup.of(Code.wide(6, 0, 1), Code.SLEEP, Code.wide(6, 0, 1)).tick(50, true);
        changes(s, x -> x.run(1), 1, "R0=1 PC=66 counter=50");
        changes(s, x -> x.run(2), 2, "R0=1 PC=68 counter=49 asleep=1");
        changes(s, x -> x.run(3), 2, "R0=1 PC=68 counter=48 asleep=1");
        changes(s, x -> x.run(100), 2, "R0=1 PC=68 counter=48 asleep=1");
        changes(s.step().step(), x -> x.run(100), 0, "counter=48");
        changesNothing(s, x -> x.run(0), 0);
    }

    @Sentence("as long as they are not 2 or 3: how many were 0 or 1")
    static void runUpToALockup() {
        Setup s = Setup.of(Code.wide(4, 0, 1), Code.WRONG).word(12, 0);
        changes(s, x -> x.run(1), 1, "R0=1 PC=66");
        changes(s, x -> x.run(2), 1, "R0=1 PC=66 lockup=1");
        changes(s, x -> x.run(100), 1, "R0=1 PC=66 lockup=1");
        changesNothing(s.step().step(), x -> x.run(100), 0);
    }

    @Sentence("how many were 0 or 1")
    static void runCountsExceptions() {
        Setup s = Setup.of(Code.jump(-2)).code(Setup.handler(14), Code.BACK).pend(14);
        Boundaries.due("entered and back and on", s.make().run(3), 3);
        Boundaries.due("all of a hundred", s.make().run(100), 100);
        Setup fault = Setup.of(Code.WRONG).code(Setup.handler(3), Code.WRONG);
        Boundaries.due("a fault, and a lockup", fault.make().run(9), 1);
    }

    // Promises 7 and 8.

    @Sentence("A register; 0 if there is none.")
    static void noRegister() {
        Setup s = Setup.of().all(1, 2, 3, 4, 5, 6, 7, 8, 9, 10, 11, 12, 13);
        for (int k : new int[] {-1, 16, 17, 31, -16, MIN, MAX}) changesNothing(s, x -> x.register(k), 0);
        Boundaries.due("the first", s.make().register(0), 1);
        Boundaries.due("the last", s.make().register(15), 64);
    }

    @Sentence("A register 0 .. 12 or 14 becomes a value, 13 that without its two lowest bits, 15 without its lowest: true.")
    static void setTheFirstAndTheLastRegister() {
        changes(Setup.of(), x -> truth(x.set(0, -1)), 1, "R0=-1");
        changes(Setup.of(), x -> truth(x.set(12, -1)), 1, "R12=-1");
        changes(Setup.of(), x -> truth(x.set(13, -1)), 1, "SP=-4");
        changes(Setup.of(), x -> truth(x.set(14, 7)), 1, "LR=7");
        changes(Setup.of(), x -> truth(x.set(15, -1)), 1, "PC=-2");
        for (int low = 0; low < 4; low++) {
            int value = 200 + low;
            changes(Setup.of(), x -> truth(x.set(13, value)), 1, "SP=200");
            changes(Setup.of(), x -> truth(x.set(15, value)), 1, "PC=" + (value - value % 2));
            changes(Setup.of(), x -> truth(x.set(14, value)), 1, "LR=" + value);
        }
    }

    @Sentence("False if there is none.")
    static void setNoRegister() {
        for (int k : new int[] {-1, 16, 17, -16, MIN, MAX}) changesNothing(Setup.of(), x -> truth(x.set(k, 5)), 0);
    }

    // Promises 9 and 10.

    @Sentence("`int status()`: STATUS.")
    static void statusWithNothingAndWithAll() {
        Boundaries.due("new", new ThumbCore(128).status(), 0x01000000);
        Boundaries.due("all flags", Setup.of().flags("NZCV").in(15).make().status(), 0xF100000F);
        Boundaries.due("bit 9 is only laid down", Setup.of().r(13, 276).in(15).make().status(), 0x0100000F);
    }

    @Sentence("NONE for another what.")
    static void aboutAnotherWhat() {
        for (int what : new int[] {-1, 7, 8, -7, MIN, MAX}) changesNothing(used(), x -> x.about(what), NONE);
    }

    @Sentence("What 0: the current exception, 1: how many are active, 2: MASK (1 or 0), 3: whether asleep, 4: whether there is a lockup, 5: the counter's number, 6: the present priority.")
    static void aboutEachFromLeastToMost() {
        ThumbCore x = new ThumbCore(128);
        for (int what = 0; what < 7; what++) Boundaries.due("about " + what, x.about(what), what == 6 ? 4 : 0);
        Setup most = Setup.of().priority(15, 2).priority(14, 1).in(15, 14, 11, 3, 2).here(Code.MASK_ON, Code.SLEEP).tick(1000, true);
        ThumbCore y = most.step().make();
        int[] before = {2, 5, 1, 0, 0, 1000, -2};
        for (int what = 0; what < 7; what++) Boundaries.due("about " + what, y.about(what), before[what]);
        y.step();
        int[] asleep = {2, 5, 1, 1, 0, 999, -2};
        for (int what = 0; what < 7; what++) Boundaries.due("about " + what, y.about(what), asleep[what]);
        ThumbCore z = Setup.of(Code.WRONG).word(12, 0).step().make();
        Boundaries.due("lockup", z.about(4), 1);
    }

    // Promises 11 and 12.

    @Sentence("An exception, 2, 14 or 15, is pending: true")
    static void pendEachThatMay() {
        for (int e : new int[] {2, 14, 15}) {
            changes(Setup.of(), x -> truth(x.pend(e)), 1, "e" + e + "=1");
            changesNothing(Setup.of().pend(e), x -> truth(x.pend(e)), 1);
            changes(Setup.of().in(e), x -> truth(x.pend(e)), 1, "e" + e + "=3");
        }
        changes(Setup.of(Code.WRONG).word(12, 0).step(), x -> truth(x.pend(14)), 1, "e14=1");
        changes(Setup.of(Code.SLEEP).step(), x -> truth(x.pend(14)), 1, "e14=1");
    }

    @Sentence("false if it is none of these")
    static void pendNoneOfThese() {
        for (int e : new int[] {-1, 0, 1, 3, 4, 10, 11, 12, 13, 16, 34, 46, 47, MIN, MAX, -30, -18, -17}) {
            changesNothing(Setup.of(), x -> truth(x.pend(e)), 0);
        }
    }

    @Sentence("Whether an exception is pending (bit 0) and active (bit 1).")
    static void exceptionInAllFourStates() {
        for (int e : new int[] {2, 14, 15}) {
            Boundaries.due("none of " + e, Setup.of().make().exception(e), 0);
            Boundaries.due("pending " + e, Setup.of().pend(e).make().exception(e), 1);
            Boundaries.due("active " + e, Setup.of().in(e).make().exception(e), 2);
            Boundaries.due("both of " + e, Setup.of().in(e).pend(e).make().exception(e), 3);
        }
        for (int e : new int[] {3, 11}) {
            Boundaries.due("none of " + e, Setup.of().make().exception(e), 0);
            Boundaries.due("active " + e, Setup.of().in(e).make().exception(e), 2);
        }
    }

    /** What is no exception is neither pending nor active. */
    @Sentence("Whether an exception is pending (bit 0) and active (bit 1).")
    static void exceptionThatIsNone() {
        Setup all = Setup.of().priority(15, 2).priority(14, 1).in(15, 14, 11, 3, 2).pend(2).pend(14).pend(15);
        for (int k : new int[] {-1, 0, 1, 4, 10, 12, 13, 16, 18, 31, 34, 35, 43, 46, 47, -18, -30, MIN, MAX}) {
            changesNothing(all, x -> x.exception(k), 0);
        }
    }

    // Promise 13.

    @Sentence("An exception, 11, 14 or 15, gets a priority 0 .. 3: true")
    static void priorityFromTheLeastToTheLargest() {
        for (int e : new int[] {11, 14, 15}) {
            for (int p : new int[] {0, 3}) {
                changesNothing(Setup.of(), x -> truth(x.priority(e, p)), 1);
                Boundaries.due("of " + e, Setup.of().priority(e, p).in(e).make().about(6), p);
            }
            changes(Setup.of().in(e), x -> truth(x.priority(e, 3)), 1, "present=3");
        }
    }

    @Sentence("false if not")
    static void priorityThatIsTooSmallOrTooLarge() {
        for (int e : new int[] {11, 14, 15}) {
            for (int p : new int[] {-1, 4, -2, 5, MIN, MAX}) {
                changesNothing(Setup.of().priority(e, 2).in(e), x -> truth(x.priority(e, p)), 0);
            }
        }
    }

    @Sentence("false if not")
    static void priorityOfOneThatMayHaveNone() {
        for (int e : new int[] {2, 3}) {
            for (int p : new int[] {0, 1, 3, -2, -1}) changesNothing(Setup.of().in(e), x -> truth(x.priority(e, p)), 0);
        }
        for (int e : new int[] {-1, 0, 1, 4, 10, 12, 13, 16, 27, 46, 47, -18, -17, -21, MIN, MAX}) {
            changesNothing(Setup.of().in(14), x -> truth(x.priority(e, 1)), 0);
        }
    }

    // Promise 14.

    @Sentence("The counter's RELOAD becomes a number 0 .. 1000, its own number 0, and it is on or off: true")
    static void tickFromTheLeastToTheLargest() {
        for (int reload : new int[] {0, 1, 999, 1000}) {
            Setup s = Setup.of(Code.NOTHING, Code.NOTHING);
            changesNothing(s, x -> truth(x.tick(reload, true)), 1);
            Boundaries.made(s.tick(reload, true), "counter=" + reload);
        }
    }

    @Sentence("its own number 0")
    static void tickBringsItsNumberTo0() {
        Setup running = Setup.of(Code.NOTHING, Code.NOTHING).tick(9, true).step();
        changes(running, x -> truth(x.tick(9, true)), 1, "counter=0");
        changes(running, x -> truth(x.tick(9, false)), 1, "counter=0");
        Boundaries.made(running.tick(9, false), "");
    }

    @Sentence("false if reload is not so")
    static void tickThatIsTooSmallOrTooLarge() {
        Setup running = Setup.of(Code.NOTHING, Code.NOTHING).tick(9, true).step();
        for (int reload : new int[] {-1, 1001, 1002, -1000, MIN, MAX}) {
            changesNothing(running, x -> truth(x.tick(reload, true)), 0);
            changesNothing(running, x -> truth(x.tick(reload, false)), 0);
        }
        Boundaries.made(running.does(x -> x.tick(1001, false)), "counter=8");
        Setup atZero = Setup.of(Code.NOTHING).tick(9, true).does(x -> x.tick(1001, true));
        Boundaries.made(atZero, "counter=9");
        Setup off = Setup.of(Code.NOTHING).tick(9, false).does(x -> x.tick(-1, true));
        Boundaries.made(off, "");
    }
}
