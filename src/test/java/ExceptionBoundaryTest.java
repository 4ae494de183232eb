/** The boundary cases of going to an address, exceptions, entering, return, a fault, and a step. */
public final class ExceptionBoundaryTest {
    private static final int MIN = Integer.MIN_VALUE;
    private static final int MAX = Integer.MAX_VALUE;
    private static final int SIZE = Setup.SIZE;
    private static final int STATUS = 1 << 24;
    private static final int[] EXCEPTIONS = {2, 3, 11, 14, 15};

    public static void main(String[] args) throws IllegalAccessException {
        Boundaries.run(ExceptionBoundaryTest.class);
    }

    // Going to v.

    @Sentence("TO GO TO v: if an exception is active and v is -7 or -15: a RETURN.")
    static void withoutAnyActiveThereIsNoReturn() {
        for (int v : new int[] {-7, -15}) {
            Boundaries.made(Setup.of(Code.go(1)).r(1, v), "PC=" + (v - 1));
            Boundaries.made(Setup.of(Code.popAndGo(0)).word(280, v), "SP=284 PC=" + (v - 1));
        }
    }

    @Sentence("TO GO TO v: if an exception is active and v is -7 or -15: a RETURN.")
    static void numbersNextToMinus7AndMinus15AreNoReturn() {
        for (int v : new int[] {-1, -3, -5, -9, -11, -13, -17, 7, 15}) {
            Boundaries.made(Setup.of().in(14).here(Code.go(1)).r(1, v), "PC=" + (v - 1));
            Boundaries.made(Setup.of().in(14, 2).here(Code.go(1)).r(1, v), "PC=" + (v - 1));
        }
    }

    @Sentence("TO GO TO v: if an exception is active and v is -7 or -15: a RETURN.")
    static void anyRegisterMayReturn() {
        String back = "PC=64 SP=280 LR=-1 e14=0 current=0 active=0 present=4";
        Boundaries.made(Setup.of().in(14).here(Code.go(14)), back);
        Boundaries.made(Setup.of().in(14).here(Code.go(7)).r(7, -7), back);
        Boundaries.made(Setup.of().in(14).here(Code.go(0)).r(0, -7), back + " R0=0");
    }

    @Sentence("Otherwise a fault, if its lowest bit is 0")
    static void goingToAnEvenNumberIsAFault() {
        for (int v : new int[] {0, 2, 200, -2, -6, -8, -14, -16, MIN, MAX - 1}) {
            Boundaries.fault(Setup.of(Code.go(1)).r(1, v));
            Boundaries.fault(Setup.of().in(14).here(Code.go(1)).r(1, v));
            Boundaries.fault(Setup.of(Code.popAndGo(0)).word(280, v));
            Boundaries.fault(Setup.of(Code.goWithLink(1)).r(1, v));
        }
    }

    @Sentence("else PC = v - 1")
    static void goingToAnOddNumber() {
        for (int v : new int[] {1, 201, -1, MIN + 1, MAX}) Boundaries.made(Setup.of(Code.go(1)).r(1, v), "PC=" + (v - 1));
    }

    // Exceptions and their priorities.

    @Sentence("EXCEPTIONS: 2 (priority -2), 3 (-1), 11, 14, 15 (0 .. 3, at first 0)")
    static void prioritiesAtFirst() {
        int[] want = {-2, -1, 0, 0, 0};
        for (int i = 0; i < 5; i++) Boundaries.due("of " + EXCEPTIONS[i], Setup.of().in(EXCEPTIONS[i]).make().about(6), want[i]);
    }

    @Sentence("each may be PENDING (2, 14, 15) and ACTIVE")
    static void pendingAndActiveAtOnce() {
        for (int e : new int[] {2, 14, 15}) {
            ThumbCore x = Setup.of().in(e).pend(e).make();
            Boundaries.due("both of " + e, x.exception(e), 3);
        }
        for (int e : new int[] {3, 11}) {
            ThumbCore x = Setup.of().in(e).pend(e).make();
            Boundaries.due("active " + e, x.exception(e), 2);
        }
    }

    @Sentence("The PRESENT priority is the least of those of the active ones")
    static void thePresentPriorityNeedNotBeTheCurrentOnes() {
        Setup two = Setup.of().priority(15, 3).priority(14, 2).in(15, 14);
        Boundaries.due("of two", two.make().about(6), 2);
        Boundaries.due("the other one's", two.priority(15, 1).make().about(6), 1);
        Boundaries.due("the current one is 14 all the same", two.make().about(0), 14);
        Boundaries.due("of three", two.in(11).make().about(6), 0);
        Boundaries.due("of four", two.in(3).make().about(6), -1);
        Boundaries.due("of five", two.in(2).make().about(6), -2);
        Boundaries.due("five are active", two.make().about(1), 5);
    }

    @Sentence("4 without any")
    static void thePresentPriorityWithoutAnyIs4() {
        Boundaries.due("new", new ThumbCore(128).about(6), 4);
        Setup lowest = Setup.of(Code.NOTHING).priority(14, 3).pend(14);
        Boundaries.enters(lowest, 14, 3, "");
        Boundaries.due("behind the return", lowest.step().here(Code.BACK).step().make().about(6), 4);
    }

    @Sentence("but 0 if MASK is on and it is above")
    static void maskBringsThePresentPriorityDownTo0() {
        Boundaries.due("without any", Setup.of().masked().make().about(6), 0);
        for (int p = 0; p < 4; p++) Boundaries.due("of 14 with " + p, Setup.of().priority(14, p).in(14).masked().make().about(6), 0);
    }

    @Sentence("but 0 if MASK is on and it is above")
    static void maskLeavesThePresentPriorityBelow0() {
        Boundaries.due("of 3", Setup.of().in(3).masked().make().about(6), -1);
        Boundaries.due("of 2", Setup.of().in(2).masked().make().about(6), -2);
    }

    @Sentence("THE CURRENT one is that which was entered last and is active; 0 without any.")
    static void theCurrentOneIsTheLastEntered() {
        Setup s = Setup.of().priority(15, 2).priority(14, 1);
        Boundaries.due("none", s.make().about(0), 0);
        for (int e : new int[] {15, 14, 11, 3, 2}) Boundaries.due("in " + e, s.in(e).make().about(0), e);
        for (int e : new int[] {3, 11, 14, 15, 0}) Boundaries.due("back in " + e, s.here(Code.BACK).step().make().about(0), e);
    }

    // Entering.

    @Sentence("what is laid down are 32 bytes below SP, 4 more if SP is not divided by 8: the words R0, R1, R2, R3, R12, LR, a, STATUS")
    static void enteringWithSpDividedBy8() {
        String laid = "@248=10 @252=11 @256=12 @260=13 @264=22 @268=24 @272=64 @276=" + STATUS;
        Boundaries.step(Setup.of().numbered().pend(14), 1, laid + " SP=248 LR=-7 PC=108 e14=2 current=14 active=1 present=0");
    }

    @Sentence("what is laid down are 32 bytes below SP, 4 more if SP is not divided by 8: the words R0, R1, R2, R3, R12, LR, a, STATUS, with bit 9 set if it was 4 more")
    static void enteringWithSpNotDividedBy8() {
        String laid = "@240=10 @244=11 @248=12 @252=13 @256=22 @260=24 @264=64 @268=" + (STATUS + 512);
        Setup s = Setup.of().word(272, 0x5A5A5A5A).numbered().r(13, 276).pend(14);
        Boundaries.step(s, 1, laid + " SP=240 LR=-7 PC=108 e14=2 current=14 active=1 present=0");
    }

    @Sentence("if they are not all there")
    static void enteringDownToTheFirstWord() {
        for (int sp : new int[] {32, 36, 40, 44}) Boundaries.enters(Setup.of().numbered().r(13, sp).pend(14), 14, 0, "");
    }

    @Sentence("if they are not all there")
    static void enteringBelowTheFirstWordIsALockup() {
        for (int sp : new int[] {28, 24, 8, 4, 0}) {
            Boundaries.locks(Setup.of().numbered().r(13, sp).pend(14));
            Boundaries.locks(Setup.of(Code.WRONG).numbered().r(13, sp));
        }
    }

    @Sentence("if they are not all there")
    static void enteringFromTheLastWordOn() {
        for (int sp : new int[] {280, 284, 288}) Boundaries.enters(Setup.of().numbered().r(13, sp).pend(14), 14, 0, "");
        for (int sp : new int[] {128, 132}) Boundaries.enters(Setup.sized(132, sp).numbered().pend(14), 14, 0, "PC=108");
    }

    /** The eight words must be there, the 4 bytes more between them and SP are not written. */
    @Sentence("if they are not all there")
    static void enteringWithOnlyTheFourBytesMoreBehindTheEnd() {
        Boundaries.enters(Setup.of().numbered().r(13, SIZE + 4).pend(14), 14, 0, "");
    }

    @Sentence("if they are not all there")
    static void enteringBehindTheLastWordIsALockup() {
        for (int sp : new int[] {SIZE + 8, SIZE + 12, SIZE + 32, SIZE + 64, 4096, MAX, MIN, MIN + 32, MIN + 36, -32, -8, -4}) {
            Boundaries.locks(Setup.of().numbered().r(13, sp).pend(14));
        }
        Boundaries.locks(Setup.sized(132, 136).numbered().pend(14));
    }

    @Sentence("or the word at 4 * e is even: LOCKUP.")
    static void enteringByAnEvenWordIsALockup() {
        for (int even : new int[] {0, 2, 100, -2, MIN}) {
            for (int e : new int[] {2, 14, 15}) Boundaries.locks(Setup.of().numbered().word(4 * e, even).pend(e));
            Boundaries.locks(Setup.of(Code.WRONG).numbered().word(12, even));
            Boundaries.locks(Setup.of(Code.CALL).numbered().word(44, even));
        }
    }

    @Sentence("PC that word, as it was before, without its lowest bit")
    static void enteringByAnOddWord() {
        for (int odd : new int[] {1, 3, 289, -1, MAX, MIN + 1}) {
            for (int e : new int[] {2, 14, 15}) {
                Boundaries.enters(Setup.of().word(4 * e, odd).pend(e), e, e == 2 ? -2 : 0, "PC=" + (odd - 1));
            }
            Boundaries.fault(Setup.of(Code.WRONG).word(12, odd));
            Boundaries.calls(Setup.of(Code.CALL).word(44, odd), 0);
        }
    }

    @Sentence("PC that word, as it was before, without its lowest bit")
    static void enteringOverTheWordItself() {
        Boundaries.enters(Setup.of().numbered().r(13, 32).pend(2), 2, -2, "PC=96");
        Boundaries.fault(Setup.of(Code.WRONG).numbered().r(13, 32));
        Boundaries.calls(Setup.of(Code.CALL).numbered().r(13, 64), 0);
        Boundaries.enters(Setup.of().numbered().r(13, 64).pend(14), 14, 0, "PC=108");
        Boundaries.enters(Setup.of().numbered().r(13, 64).pend(15), 15, 0, "PC=112");
    }

    @Sentence("Else SP is where they begin, LR = -7 if none was active, else -15")
    static void lrTellsWhetherAnyWasActive() {
        Setup s = Setup.of().priority(15, 2).priority(14, 1);
        int[] order = {15, 14, 11, 3, 2};
        for (int i = 0; i < 5; i++) Boundaries.due("in " + order[i], s.in(order[i]).make().register(14), i == 0 ? -7 : -15);
        for (int e : EXCEPTIONS) Boundaries.due("first " + e, Setup.of().in(e).make().register(14), -7);
    }

    @Sentence("e is pending no more and active")
    static void onlyTheOneEnteredIsPendingNoMore() {
        Boundaries.enters(Setup.of().pend(2).pend(14).pend(15), 2, -2, "e14=1 e15=1");
        Boundaries.enters(Setup.of().pend(14).pend(14).pend(15), 14, 0, "e15=1");
    }

    @Sentence("STATUS: N, Z, C, V in bits 31 .. 28, 1 in bit 24, the current exception's number from bit 0 on.")
    static void statusWithEachFlagAndEachException() {
        Boundaries.due("none", Setup.of().make().status(), STATUS);
        Boundaries.due("N", Setup.of().flags("N").make().status(), 0x81000000);
        Boundaries.due("Z", Setup.of().flags("Z").make().status(), 0x41000000);
        Boundaries.due("C", Setup.of().flags("C").make().status(), 0x21000000);
        Boundaries.due("V", Setup.of().flags("V").make().status(), 0x11000000);
        for (int e : EXCEPTIONS) Boundaries.due("in " + e, Setup.of().flags("NZCV").in(e).make().status(), 0xF1000000 + e);
    }

    @Sentence("STATUS: N, Z, C, V in bits 31 .. 28, 1 in bit 24, the current exception's number from bit 0 on.")
    static void statusLaidDownTellsTheOneThatIsLeft() {
        ThumbCore x = Setup.of().flags("NC").priority(15, 2).in(15, 14, 3).make();
        Boundaries.due("of 3", Bench.word(x, 184 + 28), 0xA100000E);
        Boundaries.due("of 14", Bench.word(x, 216 + 28), 0xA100000F);
        Boundaries.due("of 15", Bench.word(x, 248 + 28), 0xA1000000);
    }

    // Return.

    private static final String NONE_ACTIVE = " current=0 active=0 present=4";

    private static Setup backFrom14() {
        return Setup.of().numbered().in(14).here(Code.BACK);
    }

    /** 14 in 15; LR is -15, and 15 is told. */
    private static Setup backTo15() {
        return Setup.of().numbered().priority(15, 1).in(15, 14).here(Code.BACK);
    }

    @Sentence("RETURN: the 8 words at SP must be there")
    static void returnFromTheFirstAndTheLastWords() {
        String zeros = "R0=0 R1=0 R2=0 R3=0 R12=0 LR=0 PC=0 flags= e14=0" + NONE_ACTIVE;
        Setup last = backFrom14().r(13, SIZE - 32);
        for (int w = 0; w < 8; w++) last.word(SIZE - 32 + 4 * w, 0);
        Boundaries.made(last, zeros + " SP=" + SIZE);
        Setup first = backFrom14().r(13, 0);
        Boundaries.made(first, zeros + " R0=280 R1=65 R2=97 R3=101 SP=32");
    }

    @Sentence("RETURN: the 8 words at SP must be there")
    static void returnFromWordsThatAreNotAllThereIsAFault() {
        for (int sp : new int[] {SIZE - 28, SIZE - 4, SIZE, SIZE + 4}) Boundaries.fault(backFrom14().r(13, sp));
        for (int sp : new int[] {SIZE + 8, 4096, -4, -32, -36, MIN, MAX}) Boundaries.locks(backFrom14().r(13, sp));
        Setup popped = Setup.of().in(14).here(Code.popAndGo(0)).r(13, SIZE - 32).word(SIZE - 32, -7);
        Boundaries.fault(popped);
    }

    @Sentence("the last one's lowest six bits tell 0, if v is -7")
    static void returnToNoneThatTellsOneIsAFault() {
        for (int b = 0; b < 6; b++) Boundaries.fault(backFrom14().word(276, STATUS | 1 << b));
        Boundaries.fault(backFrom14().word(276, STATUS | 14));
        Boundaries.fault(backFrom14().word(276, STATUS | 63));
    }

    @Sentence("the last one's lowest six bits tell 0, if v is -7")
    static void onlyTheLowestSixBitsTell() {
        String back = "LR=24 PC=64 SP=280 e14=0" + NONE_ACTIVE;
        for (int b = 6; b < 28; b++) if (b != 9) Boundaries.made(backFrom14().word(276, 1 << b), back);
        Boundaries.made(backFrom14().word(276, 0), back);
        Setup both = backTo15().word(244, 15 | 0x0FFFFDC0);
        Boundaries.made(both, "LR=-7 PC=112 SP=248 e14=0 current=15 active=1 present=1");
    }

    @Sentence("and one that is active and not the current one, if it is -15")
    static void returnToOneThatIsActive() {
        Boundaries.made(backTo15(), "LR=-7 PC=112 SP=248 e14=0 current=15 active=1 present=1");
    }

    @Sentence("and one that is active and not the current one, if it is -15")
    static void returnToOneThatIsNotActiveIsAFault() {
        for (int told : new int[] {0, 1, 2, 3, 11, 13, 16, 31, 32, 47, 63}) Boundaries.fault(backTo15().word(244, STATUS | told));
    }

    @Sentence("and one that is active and not the current one, if it is -15")
    static void returnToTheCurrentOneIsAFault() {
        Boundaries.fault(backTo15().word(244, STATUS | 14));
        Boundaries.locks(Setup.of().in(14, 3).here(Code.BACK).word(244, STATUS | 3));
    }

    @Sentence("-7 needs that just one is active")
    static void returnToNoneWithTwoActiveIsAFault() {
        Boundaries.fault(backTo15().r(14, -7).word(244, STATUS));
        Boundaries.fault(backTo15().r(14, -7));
        Boundaries.locks(Setup.of().in(14, 3).here(Code.BACK).r(14, -7).word(244, STATUS));
        for (int e : EXCEPTIONS) {
            Boundaries.made(Setup.of().in(e).here(Code.BACK),
                "LR=-1 PC=" + (e == 11 ? 66 : 64) + " SP=280 e" + e + "=0" + NONE_ACTIVE);
        }
    }

    @Sentence("-15 more than one")
    static void returnToAnotherWithOneActiveIsAFault() {
        Boundaries.fault(backFrom14().r(14, -15));
        Boundaries.fault(backFrom14().r(14, -15).word(276, STATUS | 14));
        Boundaries.fault(backFrom14().r(14, -15).word(276, STATUS | 15));
        Boundaries.locks(Setup.of().in(3).here(Code.BACK).r(14, -15));
        Boundaries.locks(Setup.of().in(2).here(Code.BACK).r(14, -15));
    }

    @Sentence("The current one is active no more; that which is told is current")
    static void returnToOneThatWasNotEnteredBefore() {
        Setup three = Setup.of().numbered().priority(15, 2).priority(14, 1).in(15, 14, 2).here(Code.BACK).word(212, STATUS | 15);
        Boundaries.made(three, "LR=-15 PC=108 SP=216 e2=0 current=15 active=2 present=1");
        Setup next = three.step().here(Code.BACK).word(244, STATUS | 14);
        Boundaries.made(next, "LR=-7 PC=112 SP=248 e15=0 current=14 active=1 present=1");
    }

    @Sentence("The current one is active no more; that which is told is current")
    static void returnLeavesPendingOnes() {
        Boundaries.made(backFrom14().pend(14).pend(15), "LR=24 PC=64 SP=280 e14=1 e15=1" + NONE_ACTIVE);
    }

    @Sentence("registers and flags are as was laid down")
    static void returnTakesWhatIsLaidDownByThen() {
        Setup s = backFrom14();
        for (int w = 0; w < 6; w++) s.word(248 + 4 * w, -1 - w);
        s.word(272, 200).word(276, 0xF0000000).all(1, 2, 3, 4, 5, 6, 7, 8, 9, 10, 11, 12, 13);
        String back = "R0=-1 R1=-2 R2=-3 R3=-4 R12=-5 LR=-6 PC=200 SP=280 flags=NZCV e14=0" + NONE_ACTIVE;
        Boundaries.made(s, back);
        Setup none = Setup.of().flags("NZCV").in(14).here(Code.BACK).word(276, 0);
        Boundaries.made(none, "LR=-1 PC=64 SP=280 flags= e14=0" + NONE_ACTIVE);
    }

    @Sentence("registers and flags are as was laid down")
    static void returnLeavesMask() {
        Boundaries.made(backFrom14().masked(), "LR=24 PC=64 SP=280 e14=0 current=0 active=0 present=0");
    }

    @Sentence("PC the word a without its lowest bit")
    static void returnToAnOddAddress() {
        int[] words = {64, 65, 66, 67, -1, -2, MAX, MIN, 0, 1};
        int[] next = {64, 64, 66, 66, -2, -2, MAX - 1, MIN, 0, 0};
        for (int i = 0; i < words.length; i++) {
            Boundaries.made(backFrom14().word(272, words[i]), "LR=24 SP=280 e14=0 PC=" + next[i] + NONE_ACTIVE);
        }
    }

    @Sentence("SP is behind the words, 4 more if bit 9 was set")
    static void returnWithBit9() {
        Boundaries.made(backFrom14().word(276, STATUS | 512), "LR=24 PC=64 SP=284 e14=0" + NONE_ACTIVE);
        Setup uneven = Setup.of().numbered().r(13, 276).in(14).here(Code.BACK);
        Boundaries.made(uneven, "LR=24 PC=64 SP=276 e14=0" + NONE_ACTIVE);
        Boundaries.made(uneven.word(268, STATUS), "LR=24 PC=64 SP=272 e14=0" + NONE_ACTIVE);
        Setup last = Setup.of().r(13, 284).in(14).here(Code.BACK).word(276, STATUS | 512);
        Boundaries.made(last, "LR=-1 PC=64 SP=284 e14=0" + NONE_ACTIVE);
    }

    // A fault.

    @Sentence("A FAULT enters 3 from the address of its instruction")
    static void aFaultAtPriority0() {
        Boundaries.fault(Setup.of(Code.WRONG));
        Boundaries.fault(Setup.of().in(14).here(Code.WRONG));
        Boundaries.fault(Setup.of(Code.WRONG).masked());
        Boundaries.fault(Setup.of().in(14).here(Code.WRONG).masked());
    }

    @Sentence("A FAULT enters 3 from the address of its instruction")
    static void aFaultOfTheSecondOfTwoHalvesIsLaidDownAtTheFirst() {
        ThumbCore x = Setup.of(30 * 2048, 0).make();
        x.step();
        Boundaries.due("a", Bench.word(x, 272), 64);
    }

    @Sentence("if the present priority is below 0, it is a LOCKUP")
    static void aFaultBelowPriority0IsALockup() {
        Boundaries.locks(Setup.of().in(3).here(Code.WRONG));
        Boundaries.locks(Setup.of().in(2).here(Code.WRONG));
        Boundaries.locks(Setup.of().in(3, 2).here(Code.WRONG));
        Boundaries.locks(Setup.of().in(3).here(Code.WRONG).masked());
        Boundaries.locks(Setup.of().in(2).r(15, SIZE));
    }

    // A step.

    @Sentence("A STEP: with a lockup: nothing.")
    static void aStepWithALockupDoesNothing() {
        Setup s = Setup.of(Code.WRONG, Code.wide(4, 0, 9)).word(12, 0).tick(5, true).step();
        Boundaries.step(s, 3, "");
        Boundaries.step(s.pend(2).pend(14).pend(15), 3, "");
        Boundaries.step(s.word(12, 101).r(15, 66), 3, "");
        Boundaries.due("the counter has stood", s.make().about(5), 5);
    }

    @Sentence("Otherwise, if the COUNTER is on: if it is 0 it becomes RELOAD")
    static void theCounterBecomesReload() {
        for (int reload : new int[] {1, 2, 1000}) Boundaries.made(Setup.of(Code.NOTHING).tick(reload, true), "counter=" + reload);
    }

    @Sentence("Otherwise, if the COUNTER is on: if it is 0 it becomes RELOAD")
    static void theCounterOffStands() {
        Boundaries.made(Setup.of(Code.NOTHING).tick(5, false), "");
        Setup none = Setup.of(Code.NOTHING, Code.NOTHING).tick(5, true).step().tick(0, false);
        Boundaries.made(none, "");
        Boundaries.made(none.tick(7, true).tick(1, false), "");
    }

    /** It becomes RELOAD, which is 0; it is not one less. */
    @Sentence("else it is one less, and if that is 0, 15 is pending")
    static void aReloadOf0NeverMakes15Pending() {
        Setup s = Setup.of(Code.NOTHING, Code.NOTHING, Code.NOTHING).tick(0, true);
        for (int i = 0; i < 3; i++) {
            Boundaries.made(s, "");
            s.step();
        }
    }

    @Sentence("else it is one less, and if that is 0, 15 is pending")
    static void theCounterThatComesTo0Makes15Pending() {
        Setup s = Setup.of(Code.NOTHING).masked().tick(2, true).here(Code.jump(-2)).step();
        Boundaries.made(s, "PC=64 counter=1");
        Boundaries.made(s.step(), "PC=64 counter=0 e15=1");
        Boundaries.made(s.step(), "PC=64 counter=2");
        Boundaries.made(s.step(), "PC=64 counter=1");
        Boundaries.made(s.step(), "PC=64 counter=0");
    }

    @Sentence("else it is one less, and if that is 0, 15 is pending")
    static void the15ThatBecomesPendingIsEnteredInTheSameStep() {
        Boundaries.enters(Setup.of(Code.NOTHING).tick(1, true).step(), 15, 0, "counter=0");
        Setup within = Setup.of().in(15).here(Code.NOTHING, Code.NOTHING).tick(1, true).step();
        Boundaries.made(within, "counter=0 e15=3");
    }

    @Sentence("Otherwise, if the COUNTER is on")
    static void theCounterMovesInEveryStepWithoutALockup() {
        Boundaries.enters(Setup.of().tick(5, true).pend(14), 14, 0, "counter=5");
        Setup asleep = Setup.of(Code.SLEEP).step().tick(5, true);
        Boundaries.step(asleep, 2, "counter=5");
        Boundaries.step(Setup.of().in(2).here(Code.WRONG).tick(5, true), 3, "counter=5 lockup=1");
        Boundaries.step(Setup.of(Code.WRONG).word(12, 0).tick(5, true), 3, "counter=5 lockup=1");
        ThumbCore fault = Setup.of(Code.WRONG).tick(5, true).make();
        fault.step();
        Boundaries.due("with a fault", fault.about(5), 5);
    }

    private static Setup asleep() {
        return Setup.of(Code.SLEEP, Code.NOTHING).step();
    }

    @Sentence("If asleep, and no exception is pending whose priority is below the present one, MASK taken for off: nothing more.")
    static void asleepWithNothingPending() {
        Boundaries.step(asleep(), 2, "");
        Boundaries.step(asleep().step().step(), 2, "");
        Boundaries.step(asleep().r(15, 64), 2, "");
    }

    @Sentence("If asleep, and no exception is pending whose priority is below the present one, MASK taken for off: nothing more.")
    static void asleepWithOneAtThePresentPriority() {
        for (int p = 0; p < 4; p++) {
            Setup s = Setup.of().priority(14, p).priority(15, p).in(14).here(Code.SLEEP, Code.NOTHING).step();
            Boundaries.step(s.pend(15), 2, "");
            Boundaries.step(s.pend(14), 2, "");
        }
        Boundaries.step(Setup.of().in(2).here(Code.SLEEP).step().pend(2).pend(14), 2, "");
    }

    @Sentence("Otherwise it is awake.")
    static void wokenByOneBelowThePresentPriority() {
        for (int p = 0; p < 3; p++) {
            Setup s = Setup.of().priority(14, p + 1).priority(15, p).in(14).here(Code.SLEEP, Code.NOTHING).step().pend(15);
            Boundaries.enters(s, 15, p, "asleep=0");
        }
        Boundaries.enters(asleep().priority(14, 3).pend(14), 14, 3, "asleep=0");
        Boundaries.enters(Setup.of().in(3).here(Code.SLEEP).step().pend(2), 2, -2, "asleep=0");
        Boundaries.step(asleep().word(56, 0).pend(14), 3, "asleep=0 lockup=1");
    }

    /** MASK is on before the sleep, so that the instruction behind the sleep is made. */
    private static Setup asleepBehindMask() {
        return Setup.of(Code.MASK_ON, Code.SLEEP, Code.wide(4, 0, 9)).step().step();
    }

    @Sentence("MASK taken for off")
    static void wokenBehindMaskByOneThatIsNotEntered() {
        Boundaries.step(asleepBehindMask(), 2, "");
        for (int p = 0; p < 4; p++) Boundaries.made(asleepBehindMask().priority(14, p).pend(14), "asleep=0 R0=9");
        Boundaries.enters(asleepBehindMask().pend(2), 2, -2, "asleep=0");
    }

    @Sentence("MASK taken for off")
    static void asleepBehindMaskInAnException() {
        Setup s = Setup.of().priority(14, 2).in(14).here(Code.MASK_ON, Code.SLEEP, Code.wide(4, 0, 9)).step().step();
        Boundaries.step(s.priority(15, 2).pend(15), 2, "");
        Boundaries.step(s.priority(15, 3), 2, "");
        Setup word = Setup.of().priority(14, 2).in(14).here(Code.MASK_ON, Code.SLEEP).step().step().r(15, 64).here(Code.wide(4, 0, 9));
        Boundaries.made(word.priority(15, 1).pend(15), "asleep=0 R0=9");
    }

    @Sentence("Of the pending ones with priorities below the present one")
    static void oneAtThePresentPriorityWaits() {
        for (int p = 0; p < 4; p++) {
            Setup s = Setup.of().priority(14, p).priority(15, p).in(14).here(Code.NOTHING).pend(14).pend(15);
            Boundaries.made(s, "");
        }
        Boundaries.made(Setup.of().in(2).here(Code.NOTHING).pend(2).pend(14).pend(15), "");
        Boundaries.made(Setup.of().in(3).here(Code.NOTHING).pend(14).pend(15), "");
        Boundaries.made(Setup.of(Code.NOTHING).masked().pend(14).pend(15), "");
    }

    @Sentence("Of the pending ones with priorities below the present one")
    static void oneJustBelowThePresentPriorityIsEntered() {
        for (int p = 0; p < 3; p++) {
            Boundaries.enters(Setup.of().priority(14, p + 1).priority(15, p).in(14).pend(15), 15, p, "");
            Boundaries.enters(Setup.of().priority(15, p + 1).priority(14, p).in(15).pend(14), 14, p, "");
        }
        Boundaries.enters(Setup.of().in(3).pend(2), 2, -2, "");
        Boundaries.enters(Setup.of().masked().pend(2), 2, -2, "");
        Boundaries.enters(Setup.of().priority(14, 3).pend(14), 14, 3, "");
    }

    @Sentence("the least by priority, then by number, is entered from PC")
    static void theLeastByPriority() {
        Boundaries.enters(Setup.of().priority(14, 1).pend(14).pend(15), 15, 0, "");
        Boundaries.enters(Setup.of().priority(14, 3).priority(15, 2).pend(14).pend(15), 15, 2, "");
        Boundaries.enters(Setup.of().priority(15, 1).pend(14).pend(15), 14, 0, "");
        Boundaries.enters(Setup.of().pend(15).pend(14).pend(2), 2, -2, "");
    }

    @Sentence("the least by priority, then by number, is entered from PC")
    static void theLeastByNumber() {
        for (int p = 0; p < 4; p++) {
            Setup s = Setup.of().priority(14, p).priority(15, p).pend(15).pend(14);
            Boundaries.enters(s, 14, p, "");
        }
    }

    @Sentence("the least by priority, then by number, is entered from PC")
    static void enteredFromAPcThatIsNotThere() {
        for (int pc : new int[] {SIZE, -2, MIN}) Boundaries.enters(Setup.of().r(15, pc).pend(14), 14, 0, "");
    }

    @Sentence("without any an instruction is made")
    static void withoutAnyAnInstructionIsMade() {
        Boundaries.made(Setup.of(Code.wide(4, 0, 9)), "R0=9");
        Boundaries.made(Setup.of(Code.wide(4, 0, 9)).pend(3).pend(11).pend(0).pend(16), "R0=9");
    }
}
