/** The boundary cases of each kind of instruction, in the document's order. */
public final class InstructionBoundaryTest {
    private static final int MIN = Integer.MIN_VALUE;
    private static final int MAX = Integer.MAX_VALUE;
    private static final int SIZE = Setup.SIZE;
    /** Each byte is another one, and has its highest bit. */
    private static final int WORD = 0x81828384;

    public static void main(String[] args) throws IllegalAccessException {
        Boundaries.run(InstructionBoundaryTest.class);
    }

    // 0, 1, 2: moved by i.

    /** R0 = R1 moved by i. */
    private static void moved(int kind, int i, String flags, int x, int due, String flagsThen) {
        Boundaries.made(Setup.of(Code.move(kind, 0, 1, i)).flags(flags).r(1, x), "R0=" + due + " flags=" + flagsThen);
    }

    @Sentence("Rd = Rn moved up by i, down by i with zeros, down by i with the sign; NZ, C the last bit that goes out")
    static void movedUpBy1And31() {
        moved(Code.UP, 1, "V", 0x80000001, 2, "CV");
        moved(Code.UP, 1, "C", 0x40000000, MIN, "N");
        moved(Code.UP, 31, "C", 1, MIN, "N");
        moved(Code.UP, 31, "", 2, 0, "ZC");
        moved(Code.UP, 31, "C", -4, 0, "Z");
    }

    @Sentence("Rd = Rn moved up by i, down by i with zeros, down by i with the sign; NZ, C the last bit that goes out")
    static void movedDownBy1And31() {
        moved(Code.DOWN, 1, "NV", -1, MAX, "CV");
        moved(Code.DOWN, 1, "C", 2, 1, "");
        moved(Code.DOWN, 31, "C", MIN, 1, "");
        moved(Code.DOWN, 31, "", 0x40000000, 0, "ZC");
        moved(Code.DOWN, 31, "C", 0x3FFFFFFF, 0, "Z");
    }

    @Sentence("Rd = Rn moved up by i, down by i with zeros, down by i with the sign; NZ, C the last bit that goes out")
    static void movedDownWithTheSignBy1And31() {
        moved(Code.DOWN_SIGNED, 1, "V", -1, -1, "NCV");
        moved(Code.DOWN_SIGNED, 1, "C", -2, -1, "N");
        moved(Code.DOWN_SIGNED, 31, "C", MIN, -1, "N");
        moved(Code.DOWN_SIGNED, 31, "", 0x40000000, 0, "ZC");
        moved(Code.DOWN_SIGNED, 31, "", 0xC0000000, -1, "NC");
    }

    @Sentence("i = 0 means 32 for 1 and 2")
    static void movedDownBy0Is32() {
        moved(Code.DOWN, 0, "", MIN, 0, "ZC");
        moved(Code.DOWN, 0, "CV", MAX, 0, "ZV");
    }

    @Sentence("i = 0 means 32 for 1 and 2")
    static void movedDownWithTheSignBy0Is32() {
        moved(Code.DOWN_SIGNED, 0, "", MIN, -1, "NC");
        moved(Code.DOWN_SIGNED, 0, "CV", MAX, 0, "ZV");
    }

    @Sentence("and for 0 that C stays")
    static void movedUpBy0LeavesC() {
        moved(Code.UP, 0, "C", MIN, MIN, "NC");
        moved(Code.UP, 0, "V", -1, -1, "NV");
        moved(Code.UP, 0, "C", 0, 0, "ZC");
    }

    // 3: adds of three.

    private static void three(int kind, int x, int y, int due, String flags) {
        Setup s = kind < 2 ? Setup.of(Code.three(kind, 0, 1, 2)).all(0, x, y) : Setup.of(Code.three(kind, 0, 1, y)).r(1, x);
        Boundaries.made(s.flags(flags.contains("C") ? "NZ" : "NZCV"), "R0=" + due + " flags=" + flags);
    }

    @Sentence("add with carry of 0: Rn, Rm, 0")
    static void sumOfThree() {
        three(0, -1, 1, 0, "ZC");
        three(0, MAX, 1, MIN, "NV");
        three(0, MIN, MIN, 0, "ZCV");
        three(0, 0, 0, 0, "Z");
    }

    @Sentence("1: Rn, Rm with all bits turned, 1")
    static void differenceOfThree() {
        three(1, 0, 0, 0, "ZC");
        three(1, 0, 1, -1, "N");
        three(1, MIN, 1, MAX, "CV");
        three(1, 0, MIN, MIN, "NV");
        three(1, MIN, MIN, 0, "ZC");
    }

    @Sentence("2: Rn, m, 0")
    static void sumWithTheLeastAndTheLargestNumber() {
        three(2, -1, 0, -1, "N");
        three(2, -7, 7, 0, "ZC");
        three(2, MAX - 6, 7, MIN, "NV");
        three(2, MAX - 7, 7, MAX, "");
    }

    @Sentence("3: Rn, m turned, 1")
    static void differenceWithTheLeastAndTheLargestNumber() {
        three(3, 0, 0, 0, "ZC");
        three(3, 7, 7, 0, "ZC");
        three(3, 6, 7, -1, "N");
        three(3, MIN + 6, 7, MAX, "CV");
    }

    // 4 .. 7: with a byte.

    private static void withByte(int kind, int x, int k, int due, String flags) {
        Setup s = Setup.of(Code.wide(kind, 5, k)).r(5, x).flags(flags.contains("C") ? "NZ" : "NZCV");
        Boundaries.made(s, "R5=" + due + " flags=" + flags);
    }

    @Sentence("4: Rr = k, NZ.")
    static void theLeastAndTheLargestByte() {
        Boundaries.made(Setup.of(Code.wide(4, 5, 0)).r(5, 9).flags("NCV"), "R5=0 flags=ZCV");
        Boundaries.made(Setup.of(Code.wide(4, 5, 255)).flags("NZ"), "R5=255 flags=");
        Boundaries.made(Setup.of(Code.wide(4, 5, 128)).flags("NC"), "R5=128 flags=C");
    }

    @Sentence("5: add with carry of Rr, k turned, 1, kept nowhere.")
    static void comparedWithAByte() {
        withByte(5, 0, 0, 0, "ZC");
        withByte(5, 255, 255, 255, "ZC");
        withByte(5, 254, 255, 254, "N");
        withByte(5, MIN, 1, MIN, "CV");
        withByte(5, MIN + 255, 255, MIN + 255, "NC");
    }

    @Sentence("6: Rr = add with carry of Rr, k, 0.")
    static void sumWithAByte() {
        withByte(6, -1, 0, -1, "N");
        withByte(6, -255, 255, 0, "ZC");
        withByte(6, MAX, 1, MIN, "NV");
        withByte(6, MAX - 255, 255, MAX, "");
    }

    @Sentence("7: Rr = that of Rr, k turned, 1.")
    static void differenceWithAByte() {
        withByte(7, 0, 0, 0, "ZC");
        withByte(7, 255, 255, 0, "ZC");
        withByte(7, 0, 255, -255, "N");
        withByte(7, MIN, 1, MAX, "CV");
    }

    // 8, h / 1024 = 16: two registers.

    private static void two(int kind, String flags, int x, int y, int due, String flagsThen) {
        Boundaries.made(Setup.of(Code.two(kind, 0, 1)).flags(flags).all(x, y), "R0=" + due + " flags=" + flagsThen);
    }

    @Sentence("0 and, 1 exclusive or, 12 or, 14 Rd and Rn turned, 15 Rn turned, 13 Rd * Rn: into Rd, NZ.")
    static void bitsThatComeTo0AndToBit31() {
        two(0, "CV", 5, 10, 0, "ZCV");
        two(0, "", -1, MIN, MIN, "N");
        two(1, "CV", -1, -1, 0, "ZCV");
        two(1, "", MAX, -1, MIN, "N");
        two(12, "CV", 0, 0, 0, "ZCV");
        two(12, "", 1, MIN, MIN + 1, "N");
        two(14, "CV", 5, -1, 0, "ZCV");
        two(14, "", MIN, MAX, MIN, "N");
        two(15, "CV", 5, -1, 0, "ZCV");
        two(15, "", 0, MAX, MIN, "N");
    }

    @Sentence("13 Rd * Rn")
    static void aProductGoesRoundBehind32Bits() {
        two(13, "CV", 65536, 65536, 0, "ZCV");
        two(13, "", 65536, 32768, MIN, "N");
        two(13, "N", -1, -1, 1, "");
        two(13, "", MIN, -1, MIN, "N");
        two(13, "C", MAX, MAX, 1, "C");
        two(13, "", 0, -1, 0, "Z");
    }

    @Sentence("8: NZ of what 0 would give.")
    static void flagsOfAndKeepNothing() {
        two(8, "NCV", 5, 10, 5, "ZCV");
        two(8, "Z", MIN, -1, MIN, "N");
        two(8, "NZ", 5, 4, 5, "");
    }

    @Sentence("which may be 0 (C stays)")
    static void movedByAByteOf0LeavesC() {
        for (int kind = 2; kind <= 4; kind++) {
            two(kind, "C", MIN, 0, MIN, "NC");
            two(kind, "V", -1, 0, -1, "NV");
            two(kind, "C", 0, 0, 0, "ZC");
        }
    }

    @Sentence("2, 3, 4: Rd moved as above by the lowest byte of Rn")
    static void movedByTheLowestByteAlone() {
        for (int kind = 2; kind <= 4; kind++) {
            two(kind, "C", 5, 256, 5, "C");
            two(kind, "", 5, 0xFFFFFF00, 5, "");
        }
        two(2, "C", 1, 0x7FFFFF01, 2, "");
        two(3, "C", 4, 0x7FFFFF01, 2, "");
        two(4, "C", 4, 0x7FFFFF01, 2, "");
    }

    @Sentence("2, 3, 4: Rd moved as above by the lowest byte of Rn")
    static void movedByAByteOf1And31() {
        two(2, "", MIN + 1, 1, 2, "C");
        two(2, "C", 1, 31, MIN, "N");
        two(2, "", 2, 31, 0, "ZC");
        two(3, "", -1, 1, MAX, "C");
        two(3, "C", MIN, 31, 1, "");
        two(3, "", 0x40000000, 31, 0, "ZC");
        two(4, "", -1, 1, -1, "NC");
        two(4, "C", MIN, 31, -1, "N");
        two(4, "", 0x40000000, 31, 0, "ZC");
    }

    @Sentence("or above 31 (by 32 the last bit out is the one at the end, beyond that 0; with the sign always that)")
    static void movedUpBy32AndBeyond() {
        two(2, "", 1, 32, 0, "ZC");
        two(2, "C", -2, 32, 0, "Z");
        for (int by : new int[] {33, 63, 64, 65, 128, 255}) two(2, "C", -1, by, 0, "Z");
    }

    @Sentence("or above 31 (by 32 the last bit out is the one at the end, beyond that 0; with the sign always that)")
    static void movedDownBy32AndBeyond() {
        two(3, "", MIN, 32, 0, "ZC");
        two(3, "C", MAX, 32, 0, "Z");
        for (int by : new int[] {33, 63, 64, 65, 128, 255}) two(3, "C", -1, by, 0, "Z");
    }

    @Sentence("with the sign always that")
    static void movedDownWithTheSignBy32AndBeyond() {
        for (int by : new int[] {32, 33, 63, 64, 65, 128, 255}) {
            two(4, "", MIN, by, -1, "NC");
            two(4, "C", MAX, by, 0, "Z");
        }
    }

    @Sentence("7: Rd turned round downwards by the lowest byte of Rn; if that byte is not 0, C is bit 31 of what comes; NZ.")
    static void turnedRoundByAByteOf0LeavesC() {
        two(7, "C", 5, 0, 5, "C");
        two(7, "", MIN, 0, MIN, "N");
        two(7, "C", 5, 256, 5, "C");
        two(7, "V", MIN, 0xFFFFFF00, MIN, "NV");
        two(7, "C", 0, 0, 0, "ZC");
    }

    @Sentence("7: Rd turned round downwards by the lowest byte of Rn; if that byte is not 0, C is bit 31 of what comes; NZ.")
    static void turnedRoundBy32IsTheSameWithC() {
        for (int by : new int[] {32, 64, 96, 128, 160, 192, 224}) {
            two(7, "", MIN, by, MIN, "NC");
            two(7, "C", MAX, by, MAX, "");
            two(7, "C", 0, by, 0, "Z");
        }
    }

    @Sentence("7: Rd turned round downwards by the lowest byte of Rn; if that byte is not 0, C is bit 31 of what comes; NZ.")
    static void turnedRoundBy1And31And33And255() {
        two(7, "", 1, 1, MIN, "NC");
        two(7, "C", 2, 1, 1, "");
        two(7, "C", 1, 31, 2, "");
        two(7, "", 0x40000000, 31, MIN, "NC");
        two(7, "", 1, 33, MIN, "NC");
        two(7, "C", 1, 255, 2, "");
        two(7, "C", MIN, 1, 0x40000000, "");
        two(7, "", MIN + 1, 1, 0xC0000000, "NC");
        two(7, "C", MIN, 31, 1, "");
        two(7, "", -1, 5, -1, "NC");
    }

    @Sentence("5: Rd = add with carry of Rd, Rn, C")
    static void sumWithC() {
        two(5, "C", -1, 0, 0, "ZC");
        two(5, "", -1, 0, -1, "N");
        two(5, "C", MAX, 0, MIN, "NV");
        two(5, "C", -1, -1, -1, "NC");
    }

    @Sentence("Rd, Rn turned, C")
    static void differenceWithC() {
        two(6, "C", 0, 0, 0, "ZC");
        two(6, "", 0, 0, -1, "N");
        two(6, "", 0, -1, 0, "Z");
        two(6, "", MIN, 0, MAX, "CV");
        two(6, "C", MIN, 0, MIN, "NC");
    }

    @Sentence("9: of Rn turned, 0, 1.")
    static void negativeOf0AndOfTheLeast() {
        two(9, "", 7, 0, 0, "ZC");
        two(9, "", 7, MIN, MIN, "NV");
        two(9, "CV", 7, MAX, MIN + 1, "N");
        two(9, "C", 7, -1, 1, "");
    }

    @Sentence("10: add with carry of Rd, Rn turned, 1, and 11: of Rd, Rn, 0, kept nowhere.")
    static void comparedAndKeptNowhere() {
        two(10, "", 0, 0, 0, "ZC");
        two(10, "C", 0, 1, 0, "N");
        two(10, "", MIN, 1, MIN, "CV");
        two(10, "", 0, MIN, 0, "NV");
        two(11, "", -1, 1, -1, "ZC");
        two(11, "", MAX, 1, MAX, "NV");
        two(11, "", MIN, MIN, MIN, "ZCV");
        two(11, "C", 0, 0, 0, "Z");
    }

    // 8, h / 1024 = 17: all registers.

    @Sentence("(register 15 read is HERE)")
    static void register15IsReadAsHere() {
        Boundaries.made(Setup.of(Code.high(0, 0, 15)).r(0, 5), "R0=73");
        Boundaries.made(Setup.of(Code.high(0, 15, 0)).r(0, 6), "PC=74");
        Boundaries.made(Setup.of(Code.high(0, 15, 15)), "PC=136");
        Boundaries.made(Setup.of(Code.high(2, 12, 15)), "R12=68");
        Boundaries.made(Setup.of(Code.high(2, 15, 15)), "PC=68");
    }

    @Sentence("with D = d + 8 * (h / 128 mod 2), M = h / 8 mod 16")
    static void registers7And8() {
        Setup numbered = Setup.of(Code.high(2, 7, 8)).numbered();
        Boundaries.made(numbered, "R7=18");
        Boundaries.made(Setup.of(Code.high(2, 8, 7)).numbered(), "R8=17");
        Boundaries.made(Setup.of(Code.high(2, 14, 0)).numbered(), "LR=10");
        Boundaries.made(Setup.of(Code.high(2, 0, 14)).numbered(), "R0=24");
        Boundaries.made(Setup.of(Code.high(0, 7, 8)).numbered(), "R7=35");
        Boundaries.made(Setup.of(Code.high(0, 0, 0)).numbered(), "R0=20");
    }

    @Sentence("0: RD = RD + RM.")
    static void sumOfHighRegistersGoesRoundWithoutFlags() {
        Boundaries.made(Setup.of(Code.high(0, 8, 9)).flags("NZCV").r(8, -1).r(9, 1), "R8=0");
        Boundaries.made(Setup.of(Code.high(0, 8, 9)).r(8, MAX).r(9, 1), "R8=" + MIN);
    }

    @Sentence("2: RD = RM.")
    static void takenWithoutFlags() {
        Boundaries.made(Setup.of(Code.high(2, 0, 1)).flags("NZCV").r(1, 5), "R0=5");
        Boundaries.made(Setup.of(Code.high(2, 0, 1)).r(0, 5), "R0=0");
        Boundaries.made(Setup.of(Code.high(2, 12, 8)).r(8, MIN), "R12=" + MIN);
        Boundaries.made(Setup.of(Code.high(2, 8, 8)).r(8, -1), "");
    }

    @Sentence("1: as 10, of RD and RM (a fault if both are below 8, or one is 15).")
    static void comparedHighRegisters() {
        Boundaries.made(Setup.of(Code.high(1, 8, 7)).flags("NV").r(8, 5).r(7, 5), "flags=ZC");
        Boundaries.made(Setup.of(Code.high(1, 7, 8)).flags("ZC").r(8, 5).r(7, 4), "flags=N");
        Boundaries.made(Setup.of(Code.high(1, 14, 13)).r(14, Setup.SP), "flags=ZC");
        Boundaries.made(Setup.of(Code.high(1, 8, 8)).r(8, MIN), "flags=ZC");
    }

    @Sentence("(a fault if both are below 8, or one is 15)")
    static void comparedBothBelow8IsAFault() {
        for (int d : new int[] {0, 7}) for (int m : new int[] {0, 7}) Boundaries.fault(Setup.of(Code.high(1, d, m)).numbered());
    }

    @Sentence("(a fault if both are below 8, or one is 15)")
    static void comparedWith15IsAFault() {
        for (int k : new int[] {0, 7, 8, 14}) {
            Boundaries.fault(Setup.of(Code.high(1, k, 15)).numbered());
            Boundaries.fault(Setup.of(Code.high(1, 15, k)).numbered());
        }
        Boundaries.fault(Setup.of(Code.high(1, 15, 15)).numbered());
    }

    @Sentence("(To 13 without the two lowest bits; to 15 without the lowest one, and that is the next address.)")
    static void to13WithoutTheTwoLowestBits() {
        for (int low = 0; low < 4; low++) {
            Boundaries.made(Setup.of(Code.high(2, 13, 1)).r(1, 200 + low), "SP=200");
            Boundaries.made(Setup.of(Code.high(0, 13, 1)).r(1, low), "");
            Boundaries.made(Setup.of(Code.high(0, 13, 1)).r(1, 4 + low), "SP=284");
        }
        Boundaries.made(Setup.of(Code.high(2, 13, 1)).r(1, -1), "SP=-4");
    }

    @Sentence("(To 13 without the two lowest bits; to 15 without the lowest one, and that is the next address.)")
    static void to15WithoutTheLowestBit() {
        int[] next = {200, 200, 202, 202};
        for (int low = 0; low < 4; low++) {
            Boundaries.made(Setup.of(Code.high(2, 15, 1)).r(1, 200 + low), "PC=" + next[low]);
            Boundaries.made(Setup.of(Code.high(0, 15, 1)).r(1, 132 + low), "PC=" + next[low]);
        }
        Boundaries.made(Setup.of(Code.high(2, 15, 1)).r(1, -1), "PC=-2");
        Boundaries.made(Setup.of(Code.high(2, 15, 14)).in(14).here(Code.high(2, 15, 14)), "PC=-8");
    }

    @Sentence("3: a fault if d is not 0 or M is 15")
    static void goingWithDNot0IsAFault() {
        for (int d = 1; d < 8; d++) {
            Boundaries.fault(Setup.of(Code.go(1) + d).r(1, 201));
            Boundaries.fault(Setup.of(Code.goWithLink(1) + d).r(1, 201));
        }
    }

    @Sentence("3: a fault if d is not 0 or M is 15")
    static void goingTo15IsAFault() {
        Boundaries.fault(Setup.of(Code.go(15)));
        Boundaries.fault(Setup.of(Code.goWithLink(15)));
        Boundaries.fault(Setup.of(Code.BACK).code(66, Code.go(15)).r(15, 66));
    }

    @Sentence("else GO TO RM")
    static void goingToTheFirstAndTheLastRegister() {
        Boundaries.made(Setup.of(Code.go(0)).r(0, 201), "PC=200");
        Boundaries.made(Setup.of(Code.go(14)).r(14, 201), "PC=200");
        Boundaries.fault(Setup.of(Code.go(13)));
        Boundaries.fault(Setup.of(Code.goWithLink(13)));
    }

    @Sentence("if h / 128 mod 2 is 1, LR = address behind + 1")
    static void goingWithLink() {
        Boundaries.made(Setup.of(Code.goWithLink(1)).r(1, 201), "PC=200 LR=67");
        Boundaries.made(Setup.of(Code.goWithLink(14)).r(14, 201), "PC=200 LR=67");
        Boundaries.made(Setup.of(Code.go(1)).r(1, 201), "PC=200");
        Boundaries.fault(Setup.of(Code.goWithLink(14)).r(14, 200));
        Setup last = Setup.of().code(286, Code.goWithLink(1)).r(1, 1).r(15, 286);
        Boundaries.made(last, "PC=0 LR=289");
    }

    @Sentence("where going to is not a return")
    static void goingWithLinkThatIsAReturnTakesLrAsLaidDown() {
        String none = "PC=64 SP=280 LR=-1 e14=0 current=0 active=0 present=4";
        Boundaries.made(Setup.of().in(14).here(Code.goWithLink(14)), none);
        Boundaries.made(Setup.of().in(14).here(Code.goWithLink(7)).r(7, -7), none);
        Boundaries.made(Setup.of().in(14).here(Code.goWithLink(14)).word(268, 77), none + " LR=77");
        String in14 = "PC=108 SP=248 LR=-7 e2=0 current=14 active=1 present=0";
        Boundaries.made(Setup.of().in(14, 2).here(Code.goWithLink(14)), in14);
        Boundaries.made(Setup.of().in(14, 2).here(Code.goWithLink(0)).r(0, -15), in14 + " R0=0");
    }

    @Sentence("where going to is not a return")
    static void goingWithLinkThatIsNoReturnSetsLr() {
        int in14 = Setup.handler(14) + 3;
        int in2 = Setup.handler(2) + 3;
        for (int v : new int[] {201, -1, -3, -5, -9, -11, -13, -17, 7, 15}) {
            Boundaries.made(Setup.of().in(14).here(Code.goWithLink(14)).r(14, v), "PC=" + (v - 1) + " LR=" + in14);
            Boundaries.made(Setup.of().in(14, 2).here(Code.goWithLink(1)).r(1, v), "PC=" + (v - 1) + " LR=" + in2);
        }
        for (int v : new int[] {-7, -15}) {
            Boundaries.made(Setup.of(Code.goWithLink(1)).r(1, v), "PC=" + (v - 1) + " LR=67");
            Boundaries.made(Setup.of(Code.goWithLink(14)).r(14, v), "PC=" + (v - 1) + " LR=67");
        }
    }

    @Sentence("where going to is not a return")
    static void goingWithLinkThatIsAWrongReturnIsAFault() {
        Boundaries.fault(linkingBackFrom(14).r(14, -15));
        Boundaries.fault(linkingBackFrom(14).word(276, 14));
        Boundaries.fault(linkingBackFrom(14).r(13, 260));
        Setup inner = Setup.of().priority(15, 1).in(15, 14).here(Code.goWithLink(14));
        Boundaries.fault(inner.r(14, -7));
        Boundaries.fault(inner.r(14, -15).word(244, 14));
        Boundaries.locks(linkingBackFrom(2).r(14, -15));
        Boundaries.locks(linkingBackFrom(3).word(276, 3));
    }

    private static Setup linkingBackFrom(int e) {
        return Setup.of().in(e).here(Code.goWithLink(14));
    }

    // 9 .. 21: words, halves and bytes.

    @Sentence("9: Rr = the word at HERE without its two lowest bits, + 4 * k.")
    static void theWordAtHere() {
        Boundaries.made(Setup.of(Code.wide(9, 0, 0)).word(68, WORD), "R0=" + WORD);
        Boundaries.made(Setup.of().code(66, Code.wide(9, 0, 0)).word(68, WORD).word(72, 78).r(15, 66), "R0=" + WORD);
        Boundaries.made(Setup.of(Code.wide(9, 0, 54)).word(284, WORD), "R0=" + WORD);
        Boundaries.fault(Setup.of(Code.wide(9, 0, 55)));
        Boundaries.fault(Setup.of(Code.wide(9, 0, 255)));
        Setup large = Setup.sized(1096, 96, Code.wide(9, 0, 255)).word(1088, WORD);
        Boundaries.made(large, "R0=" + WORD);
        Boundaries.fault(Setup.of().code(284, Code.wide(9, 0, 0)).r(15, 284));
    }

    @Sentence("10, 11, at Rn + Rm, by h / 512 mod 8: 0 word, 1 half, 2 byte written from Rd; 3 byte with sign, 4 word, 5 half, 6 byte, 7 half with sign read into Rd.")
    static void theSignOfWhatIsRead() {
        int[][] due = {{3, 0x7F, 127}, {3, 0x80, -128}, {3, 0xFF, -1}, {3, 0x100, 0}, {6, 0x80, 128}, {6, 0xFF, 255},
            {7, 0x7FFF, 32767}, {7, 0x8000, -32768}, {7, 0xFFFF, -1}, {7, 0x10000, 0}, {5, 0x8000, 32768}, {5, 0xFFFF, 65535},
            {4, MIN, MIN}};
        for (int[] d : due) Boundaries.made(Setup.of(Code.atSum(d[0], 0, 1, 2)).word(280, d[1]).r(1, 200).r(2, 80), "R0=" + d[2]);
    }

    @Sentence("At Rn + : 12 word of Rd written to 4 * i, 13 read; 14 byte to i, 15 read; 16 half to 2 * i, 17 read.")
    static void theLeastAndTheLargestOffset() {
        Boundaries.made(Setup.of(Code.atOffset(12, 0, 1, 0)).all(7, 284), "@284=7");
        Boundaries.made(Setup.of(Code.atOffset(12, 0, 1, 31)).all(7, 160), "@284=7");
        Boundaries.made(Setup.of(Code.atOffset(13, 0, 1, 0)).word(284, 7).r(1, 284), "R0=7");
        Boundaries.made(Setup.of(Code.atOffset(13, 0, 1, 31)).word(284, 7).r(1, 160), "R0=7");
        Boundaries.made(Setup.of(Code.atOffset(14, 0, 1, 0)).all(0x1FF, 284), "@284=255");
        Boundaries.made(Setup.of(Code.atOffset(14, 0, 1, 31)).all(0x1FF, 253), "@284=255");
        Boundaries.made(Setup.of(Code.atOffset(15, 0, 1, 0)).word(284, -1).r(1, 284), "R0=255");
        Boundaries.made(Setup.of(Code.atOffset(15, 0, 1, 31)).word(284, -1).r(1, 253), "R0=255");
        Boundaries.made(Setup.of(Code.atOffset(16, 0, 1, 0)).all(0x1FFFF, 284), "@284=65535");
        Boundaries.made(Setup.of(Code.atOffset(16, 0, 1, 31)).all(0x1FFFF, 222), "@284=65535");
        Boundaries.made(Setup.of(Code.atOffset(17, 0, 1, 0)).word(284, -1).r(1, 284), "R0=65535");
        Boundaries.made(Setup.of(Code.atOffset(17, 0, 1, 31)).word(284, -1).r(1, 222), "R0=65535");
    }

    @Sentence("18, 19: word of Rr written to SP + 4 * k, read.")
    static void theLastWordFromSpOn() {
        Boundaries.made(Setup.of(Code.wide(18, 0, 0)).r(0, WORD), "@280=" + WORD);
        Boundaries.made(Setup.of(Code.wide(18, 0, 1)).r(0, WORD), "@284=" + WORD);
        Boundaries.fault(Setup.of(Code.wide(18, 0, 2)).r(0, WORD));
        Boundaries.fault(Setup.of(Code.wide(18, 0, 255)).r(0, WORD));
        Boundaries.made(Setup.of(Code.wide(19, 0, 0)).word(280, WORD), "R0=" + WORD);
        Boundaries.made(Setup.of(Code.wide(19, 0, 1)).word(284, WORD), "R0=" + WORD);
        Boundaries.fault(Setup.of(Code.wide(19, 0, 2)).r(0, WORD));
        Boundaries.fault(Setup.of(Code.wide(19, 0, 255)).r(0, WORD));
        Boundaries.made(Setup.of(Code.wide(18, 0, 255)).r(0, WORD).r(13, -740), "@280=" + WORD);
        Boundaries.locks(Setup.of(Code.wide(18, 0, 0)).r(13, -4));
        Boundaries.locks(Setup.of(Code.wide(19, 0, 0)).r(13, -4));
    }

    @Sentence("20: Rr = HERE without its two lowest bits, + 4 * k")
    static void hereAndTheLeastAndTheLargestNumber() {
        Boundaries.made(Setup.of(Code.wide(20, 0, 0)), "R0=68");
        Boundaries.made(Setup.of(Code.wide(20, 0, 255)), "R0=1088");
        Boundaries.made(Setup.of().code(66, Code.wide(20, 0, 0)).r(15, 66), "R0=68");
        Boundaries.made(Setup.of().code(66, Code.wide(20, 0, 255)).r(15, 66), "R0=1088");
    }

    @Sentence("21: Rr = SP + 4 * k.")
    static void spAndTheLeastAndTheLargestNumber() {
        Boundaries.made(Setup.of(Code.wide(21, 0, 0)), "R0=280");
        Boundaries.made(Setup.of(Code.wide(21, 0, 255)), "R0=1300");
        Boundaries.made(Setup.of(Code.wide(21, 0, 1)).r(13, -4).r(0, 9), "R0=0");
    }

    // 22, 23.

    @Sentence("0: SP grows by 4 * (h mod 128), or, h / 128 mod 2 being 1, falls.")
    static void spGrowsAndFallsByTheLeastAndTheMost() {
        Boundaries.made(Setup.of(Code.other(0, 0)), "");
        Boundaries.made(Setup.of(Code.other(0, 128)), "");
        Boundaries.made(Setup.of(Code.other(0, 127)), "SP=788");
        Boundaries.made(Setup.of(Code.other(0, 255)), "SP=-228");
    }

    @Sentence("0: SP grows by 4 * (h mod 128), or, h / 128 mod 2 being 1, falls.")
    static void spGoesRound() {
        Boundaries.made(Setup.of(Code.other(0, 1)).r(13, -4), "SP=0");
        Boundaries.made(Setup.of(Code.other(0, 129)).r(13, 0), "SP=-4");
        Boundaries.made(Setup.of(Code.other(0, 1)).r(13, MAX), "SP=" + MIN);
    }

    @Sentence("Rd = the lower half of Rn with sign, byte with sign, half, byte")
    static void theSignOfTheLowerHalfAndByte() {
        int[][] due = {{0, 0x7FFF, 32767}, {0, 0x8000, -32768}, {0, 0xFFFF, -1}, {0, 0xFFFF0000, 0}, {1, 0x7F, 127}, {1, 0x80, -128},
            {1, 0xFF, -1}, {1, 0xFFFFFF00, 0}, {2, 0xFFFF8000, 32768}, {2, -1, 65535}, {2, 0xFFFF0000, 0}, {3, 0xFFFFFF80, 128},
            {3, -1, 255}, {3, 0xFFFFFF00, 0}};
        for (int[] d : due) Boundaries.made(Setup.of(Code.other(2, d[0] * 64 + 8)).flags("NZCV").r(1, d[1]), "R0=" + d[2]);
    }

    @Sentence("push or pop of nothing: faults")
    static void pushOfNothingIsAFault() {
        Boundaries.fault(Setup.of(Code.push(0)).numbered());
    }

    @Sentence("push or pop of nothing: faults")
    static void popOfNothingIsAFault() {
        Boundaries.fault(Setup.of(Code.pop(0)).numbered());
    }

    @Sentence("4, 5 PUSH: the registers of the bits of k, and for 5 LR, are written to the words below SP, the lowest register lowest; SP is the lowest of these addresses.")
    static void pushOfOneAndOfAll() {
        Boundaries.made(Setup.of(Code.push(1)).numbered(), "@276=10 SP=276");
        Boundaries.made(Setup.of(Code.push(128)).numbered(), "@276=17 SP=276");
        Boundaries.made(Setup.of(Code.pushWithLink(0)).numbered(), "@276=24 SP=276");
        String eight = "@248=10 @252=11 @256=12 @260=13 @264=14 @268=15 @272=16 @276=17 SP=248";
        Boundaries.made(Setup.of(Code.push(255)).numbered(), eight);
        String nine = "@244=10 @248=11 @252=12 @256=13 @260=14 @264=15 @268=16 @272=17 @276=24 SP=244";
        Boundaries.made(Setup.of(Code.pushWithLink(255)).numbered(), nine);
    }

    @Sentence("are written to the words below SP")
    static void pushDownToTheFirstWord() {
        Boundaries.made(Setup.of(Code.push(1)).numbered().r(13, 4), "@0=10 SP=0");
        Boundaries.made(Setup.of(Code.push(3)).numbered().r(13, 8), "@0=10 @4=11 SP=0");
        Boundaries.locks(Setup.of(Code.push(3)).numbered().r(13, 4));
        Boundaries.locks(Setup.of(Code.push(1)).numbered().r(13, 0));
        Boundaries.locks(Setup.of(Code.pushWithLink(0)).numbered().r(13, 0));
        Boundaries.fault(Setup.of(Code.pushWithLink(255)).numbered().r(13, 32));
    }

    @Sentence("are written to the words below SP")
    static void pushFromTheEndOn() {
        Boundaries.made(Setup.of(Code.push(1)).numbered().r(13, SIZE), "@284=10 SP=284");
        Boundaries.fault(Setup.of(Code.push(1)).numbered().r(13, SIZE + 4));
        Boundaries.fault(Setup.of(Code.push(3)).numbered().r(13, SIZE + 4));
        Boundaries.locks(Setup.of(Code.push(7)).numbered().r(13, SIZE + 8));
        Boundaries.locks(Setup.of(Code.push(1)).numbered().r(13, -4));
        Boundaries.locks(Setup.of(Code.push(1)).numbered().r(13, MIN));
    }

    @Sentence("6: h = 46690: MASK off, 46706: on; else a fault.")
    static void aHalfNextToMaskIsAFault() {
        for (int h : new int[] {46592, 46689, 46691, 46705, 46707, 46847}) {
            Boundaries.fault(Setup.of(h));
            Boundaries.fault(Setup.of(h).masked());
        }
    }

    @Sentence("0: Rd = the bytes of Rn the other way round, 1: those of each half, 3: those of the lower half, with sign; 2 a fault.")
    static void bytesTheOtherWayRound() {
        Boundaries.made(Setup.of(Code.other(10, 8)).flags("NZCV").r(1, 0x80010203), "R0=0x03020180");
        Boundaries.made(Setup.of(Code.other(10, 8)).r(1, 0x01020380), "R0=0x80030201");
        Boundaries.made(Setup.of(Code.other(10, 8)).r(1, WORD), "R0=0x84838281");
        Boundaries.made(Setup.of(Code.other(10, 64 + 8)).r(1, 0x01020380), "R0=0x02018003");
        Boundaries.made(Setup.of(Code.other(10, 64 + 8)).r(1, WORD), "R0=0x82818483");
        Boundaries.made(Setup.of(Code.other(10, 192 + 8)).r(1, 0x0102FF7F), "R0=0x7FFF");
        Boundaries.made(Setup.of(Code.other(10, 192 + 8)).r(1, 0x01020080), "R0=-32768");
    }

    @Sentence("2 a fault.")
    static void bytesTheOtherWayRoundKind2IsAFault() {
        for (int k = 128; k < 192; k += 9) Boundaries.fault(Setup.of(Code.other(10, k)).numbered());
    }

    @Sentence("12, 13 POP: the registers of k are read from SP on, the lowest first, then, for 13, a word to which it GOES, SP being behind them already; SP is behind them.")
    static void popOfOneAndOfAll() {
        Setup eight = Setup.of(Code.pop(255)).r(13, SIZE - 32);
        Setup nine = Setup.of(Code.popAndGo(255)).r(13, SIZE - 36);
        for (int w = 0; w < 9; w++) {
            eight.word(SIZE - 32 + 4 * w, 31 + w);
            nine.word(SIZE - 36 + 4 * w, 31 + w);
        }
        String all = "R0=31 R1=32 R2=33 R3=34 R4=35 R5=36 R6=37 R7=38 SP=" + SIZE;
        Boundaries.made(eight, all);
        Boundaries.made(nine, all + " PC=38");
        Boundaries.made(Setup.of(Code.pop(1)).word(280, 7), "R0=7 SP=284");
        Boundaries.made(Setup.of(Code.pop(128)).word(280, 7), "R7=7 SP=284");
        Boundaries.made(Setup.of(Code.popAndGo(0)).word(280, 201), "PC=200 SP=284");
    }

    @Sentence("the registers of k are read from SP on")
    static void popUpToTheLastWord() {
        Boundaries.made(Setup.of(Code.pop(3)).word(280, 7).word(284, 8), "R0=7 R1=8 SP=288");
        Boundaries.fault(Setup.of(Code.pop(7)).numbered());
        Boundaries.fault(Setup.of(Code.pop(1)).numbered().r(13, SIZE));
        Boundaries.locks(Setup.of(Code.pop(1)).numbered().r(13, -4));
        Boundaries.locks(Setup.of(Code.pop(3)).numbered().r(13, -4));
        Boundaries.locks(Setup.of(Code.pop(1)).numbered().r(13, MIN));
    }

    @Sentence("then, for 13, a word to which it GOES")
    static void popAndGoUpToTheLastWord() {
        Boundaries.made(Setup.of(Code.popAndGo(1)).word(280, 7).word(284, 201), "R0=7 PC=200 SP=288");
        Boundaries.fault(Setup.of(Code.popAndGo(3)).word(280, 7).word(284, 201));
        Boundaries.fault(Setup.of(Code.popAndGo(0)).r(13, SIZE));
        Boundaries.fault(Setup.of(Code.popAndGo(1)).word(280, 7).word(284, 200));
        Boundaries.locks(Setup.of(Code.popAndGo(0)).r(13, -4));
    }

    @Sentence("SP being behind them already")
    static void popThatReturnsReadsFromBehind() {
        Setup s = Setup.of(Code.NOTHING).numbered().in(14).here(Code.pushWithLink(0x11), Code.popAndGo(0x11)).step().r(4, 99).r(0, 98);
        Boundaries.made(s, "R0=10 R4=14 LR=24 PC=64 SP=280 e14=0 current=0 active=0 present=4");
    }

    @Sentence("15: h = 48944: SLEEP; else, if h mod 16 is 0, nothing; a fault if not.")
    static void onlyOneHalfIsSleep() {
        Boundaries.made(Setup.of(48944), "asleep=1");
        for (int h = 48896; h < 49152; h += 16) if (h != 48944) Boundaries.made(Setup.of(h).flags("NZCV"), "");
    }

    @Sentence("15: h = 48944: SLEEP; else, if h mod 16 is 0, nothing; a fault if not.")
    static void aHalfNextToNothingIsAFault() {
        for (int h : new int[] {48897, 48911, 48943, 48945, 48959, 49137, 49151}) Boundaries.fault(Setup.of(h).numbered());
    }

    @Sentence("Others, and push or pop of nothing: faults.")
    static void otherKindsAreFaults() {
        for (int kind : new int[] {1, 3, 7, 8, 9, 11, 14}) {
            for (int k : new int[] {0, 1, 128, 255}) Boundaries.fault(Setup.of(Code.other(kind, k)).numbered());
        }
    }

    // 24, 25: many.

    private static final String EIGHT = "@256=10 @260=11 @264=12 @268=13 @272=14 @276=15 @280=16 @284=17";

    @Sentence("24, 25: the registers of k are written to, or read from, the words from Rr on, the lowest first; Rr is the address behind them")
    static void oneAndAllAreWritten() {
        Boundaries.made(Setup.of(Code.wide(24, 1, 1)).all(10, 284), "@284=10 R1=288");
        Boundaries.made(Setup.of(Code.wide(24, 1, 128)).numbered().r(1, 284), "@284=17 R1=288");
        Boundaries.made(Setup.of(Code.wide(24, 0, 255)).numbered().r(0, 256), EIGHT.replace("=10", "=256") + " R0=288");
        Boundaries.made(Setup.of(Code.wide(24, 1, 1)).all(10, 0), "@0=10 R1=4");
    }

    @Sentence("24, 25: the registers of k are written to, or read from, the words from Rr on, the lowest first; Rr is the address behind them")
    static void oneAndAllAreRead() {
        Boundaries.made(Setup.of(Code.wide(25, 1, 1)).word(284, 9).all(10, 284), "R0=9 R1=288");
        Boundaries.made(Setup.of(Code.wide(25, 1, 128)).word(284, 9).all(10, 284), "R7=9 R1=288");
        Setup all = Setup.of(Code.wide(25, 3, 255)).r(3, 256);
        for (int w = 0; w < 8; w++) all.word(256 + 4 * w, 31 + w);
        Boundaries.made(all, "R0=31 R1=32 R2=33 R3=34 R4=35 R5=36 R6=37 R7=38");
    }

    @Sentence("Rr is the address behind them, but not if it is read itself")
    static void aRegisterThatIsReadItselfStaysAsRead() {
        for (int list : new int[] {2, 3, 6}) {
            int place = list == 3 ? 284 : 280;
            String other = list == 3 ? " R0=8" : list == 6 ? " R2=9" : "";
            Setup s = Setup.of(Code.wide(25, 1, list)).r(1, 280).word(280, 8).word(284, 9);
            Boundaries.made(s, "R1=" + (place == 284 ? 9 : 8) + other);
        }
        Boundaries.made(Setup.of(Code.wide(25, 1, 5)).r(1, 280).word(280, 8).word(284, 9), "R0=8 R2=9 R1=288");
    }

    @Sentence("a fault if k is 0")
    static void manyOfNothingIsAFault() {
        for (int r : new int[] {0, 7}) {
            Boundaries.fault(Setup.of(Code.wide(24, r, 0)).r(r, 200));
            Boundaries.fault(Setup.of(Code.wide(25, r, 0)).r(r, 200));
        }
    }

    @Sentence("or (24) Rr is written and not the lowest one")
    static void aRegisterThatIsWrittenAndNotTheLowestIsAFault() {
        Boundaries.fault(Setup.of(Code.wide(24, 1, 3)).all(5, 200));
        Boundaries.fault(Setup.of(Code.wide(24, 7, 255)).r(7, 200));
        Boundaries.fault(Setup.of(Code.wide(24, 7, 129)).r(7, 200));
        Boundaries.fault(Setup.of(Code.wide(24, 1, 7)).all(5, 200));
    }

    @Sentence("or (24) Rr is written and not the lowest one")
    static void aRegisterThatIsWrittenAndTheLowestIsNone() {
        Boundaries.made(Setup.of(Code.wide(24, 1, 2)).r(1, 200), "@200=200 R1=204");
        Boundaries.made(Setup.of(Code.wide(24, 1, 6)).all(5, 200, 7), "@200=200 @204=7 R1=208");
        Boundaries.made(Setup.of(Code.wide(24, 7, 128)).r(7, 200), "@200=200 R7=204");
        Boundaries.made(Setup.of(Code.wide(24, 0, 129)).r(0, 200).r(7, 9), "@200=200 @204=9 R0=208");
        Boundaries.made(Setup.of(Code.wide(24, 1, 5)).all(5, 200, 7), "@200=5 @204=7 R1=208");
    }

    @Sentence("the words from Rr on")
    static void manyThatAreNotAllThereAreAFault() {
        for (int kind : new int[] {24, 25}) {
            for (int from : new int[] {201, 202, 203, 284, 288, -4, -8, MIN}) {
                Boundaries.fault(Setup.of(Code.wide(kind, 1, 5)).all(5, from, 7));
            }
            Boundaries.fault(Setup.of(Code.wide(kind, 1, 1)).all(5, 288));
            Boundaries.fault(Setup.of(Code.wide(kind, 0, 255)).r(0, 260));
        }
    }

    // 26 .. 31: other places.

    @Sentence("if the condition is met, PC = HERE + 2 * k (k with sign)")
    static void theFarthestConditionalBranches() {
        Boundaries.made(Setup.of(Code.branch(1, 127)), "PC=322");
        Boundaries.made(Setup.of(Code.branch(1, -128)), "PC=-188");
        Boundaries.made(Setup.of(Code.branch(1, 0)), "PC=68");
        Boundaries.made(Setup.of(Code.branch(1, -1)), "PC=66");
        Boundaries.made(Setup.of(Code.branch(1, -2)), "PC=64");
        Boundaries.made(Setup.of(Code.branch(0, 127)), "");
    }

    @Sentence("Z, not Z, C, not C, N, not N, V, not V, C and not Z, not that, N is V, not that, not Z and N is V, not that")
    static void eachConditionWithEachOfTheFlags() {
        String[] met = {"Z", "", "C", "", "N", "", "V", "", "C", "", "", "N", "", "Z"};
        String[] notMet = {"", "Z", "", "C", "", "N", "", "V", "ZC", "C", "N", "NV", "Z", ""};
        for (int c = 0; c < 14; c++) {
            Boundaries.made(Setup.of(Code.branch(c, 4)).flags(met[c]), "PC=76");
            Boundaries.made(Setup.of(Code.branch(c, 4)).flags(notMet[c]), "");
        }
        Boundaries.made(Setup.of(Code.branch(8, 4)), "");
        Boundaries.made(Setup.of(Code.branch(9, 4)).flags("ZC"), "PC=76");
        Boundaries.made(Setup.of(Code.branch(9, 4)).flags("Z"), "PC=76");
        Boundaries.made(Setup.of(Code.branch(10, 4)).flags("NV"), "PC=76");
        Boundaries.made(Setup.of(Code.branch(10, 4)).flags("V"), "");
        Boundaries.made(Setup.of(Code.branch(11, 4)).flags("V"), "PC=76");
        Boundaries.made(Setup.of(Code.branch(12, 4)).flags("NV"), "PC=76");
        Boundaries.made(Setup.of(Code.branch(12, 4)).flags("ZNV"), "");
        Boundaries.made(Setup.of(Code.branch(12, 4)).flags("N"), "");
        Boundaries.made(Setup.of(Code.branch(13, 4)).flags("V"), "PC=76");
        Boundaries.made(Setup.of(Code.branch(13, 4)).flags("NV"), "");
    }

    @Sentence("14 a fault")
    static void condition14IsAFault() {
        for (int k : new int[] {0, 1, 127, -128, -1}) Boundaries.fault(Setup.of(Code.branch(14, k)).flags("NZCV"));
    }

    @Sentence("15: a CALL: exception 11 with the address behind, if its priority is below the present one, else a fault.")
    static void aCallBelowThePresentPriority() {
        for (int k : new int[] {0, 127, -128, -1}) Boundaries.calls(Setup.of(Code.branch(15, k)).numbered(), 0);
        Boundaries.calls(Setup.of(Code.CALL).priority(11, 3), 3);
        Boundaries.calls(Setup.of().priority(14, 1).in(14).here(Code.CALL), 0);
        Boundaries.calls(Setup.of().priority(14, 3).priority(11, 2).in(14).here(Code.CALL), 2);
    }

    @Sentence("15: a CALL: exception 11 with the address behind, if its priority is below the present one, else a fault.")
    static void aCallAtThePresentPriorityIsAFault() {
        Boundaries.fault(Setup.of().in(14).here(Code.CALL));
        Boundaries.fault(Setup.of().priority(14, 2).priority(11, 2).in(14).here(Code.CALL));
        Boundaries.fault(Setup.of().in(11).here(Code.CALL));
    }

    @Sentence("15: a CALL: exception 11 with the address behind, if its priority is below the present one, else a fault.")
    static void aCallAboveThePresentPriorityIsAFault() {
        Boundaries.fault(Setup.of().priority(14, 1).priority(11, 2).in(14).here(Code.CALL));
        Boundaries.fault(Setup.of(Code.CALL).priority(11, 3).masked());
        Boundaries.fault(Setup.of(Code.CALL).masked());
        Boundaries.locks(Setup.of().in(3).here(Code.CALL));
        Boundaries.locks(Setup.of().in(2).here(Code.CALL));
    }

    @Sentence("28: PC = HERE + 2 * (h mod 2048, eleven bits with sign).")
    static void theFarthestBranches() {
        Boundaries.made(Setup.of(Code.jump(1023)), "PC=2114");
        Boundaries.made(Setup.of(Code.jump(-1024)), "PC=-1980");
        Boundaries.made(Setup.of(Code.jump(0)), "PC=68");
        Boundaries.made(Setup.of(Code.jump(-1)), "PC=66");
        Boundaries.made(Setup.of(Code.jump(-2)), "PC=64");
        Boundaries.made(Setup.of(Code.jump(-34)), "PC=0");
        Boundaries.made(Setup.of(Code.jump(-35)), "PC=-2");
    }

    private static final int LONG = 30 * 2048;
    private static final int BEHIND = 49152 + 4096;

    @Sentence("30 with the half h' behind it (which must be there)")
    static void theHalfBehindMustBeThere() {
        Setup last = Setup.of().code(286, LONG).r(15, 286);
        Boundaries.fault(last);
        Setup next = Setup.of().code(284, LONG, BEHIND + 0x2800).r(15, 284);
        Boundaries.made(next, "PC=288 LR=289");
        Setup between = Setup.of().code(66, LONG, BEHIND + 0x2800, -1).r(15, 66);
        Boundaries.made(between, "PC=70 LR=71");
        Boundaries.fault(Setup.of().code(66, LONG, 4096, -1).r(15, 66));
    }

    @Sentence("being 49152 or above, h' / 4096 mod 2 being 1")
    static void theHalfBehindMustBe49152OrAbove() {
        for (int behind : new int[] {0, 4096, 32767, 45056, 49151}) Boundaries.fault(Setup.of(LONG, behind));
        Boundaries.made(Setup.of(LONG, 53248), "LR=69 PC=" + (68 + 0xC00000));
        Boundaries.made(Setup.of(LONG, 65535), "LR=69 PC=" + (68 + 4094));
    }

    @Sentence("h' / 4096 mod 2 being 1")
    static void theHalfBehindMustHaveBit12() {
        for (int behind : new int[] {49152, 53247, 57344, 61439}) Boundaries.fault(Setup.of(LONG, behind));
        Boundaries.made(Setup.of(LONG, 57343), "LR=69 PC=" + (68 + 0x800FFE));
        Boundaries.made(Setup.of(LONG, 61440), "LR=69 PC=" + (68 + 0x400000));
    }

    @Sentence("LR = PC + 5, PC = HERE + the number with sign whose bits are")
    static void theFarthestLongBranches() {
        Boundaries.made(Setup.of(LONG + 1023, BEHIND + 2047), "LR=69 PC=" + (68 + 16777214));
        Boundaries.made(Setup.of(LONG + 1024, BEHIND), "LR=69 PC=" + (68 - 16777216));
        Boundaries.made(Setup.of(LONG + 2047, BEHIND + 8192 + 2048 + 2047), "LR=69 PC=66");
        Boundaries.made(Setup.of(LONG, BEHIND + 8192 + 2048), "LR=69 PC=68");
    }

    @Sentence("24 S = h / 1024 mod 2; 23: 1 if J1 = h' / 8192 mod 2 is S, else 0; 22: likewise of J2 = h' / 2048 mod 2; 21 .. 12 h mod 1024; 11 .. 1 h' mod 2048; 0 is 0.")
    static void eachBitOfALongBranch() {
        for (int s = 0; s < 2; s++) for (int j1 = 0; j1 < 2; j1++) for (int j2 = 0; j2 < 2; j2++) {
            int number = s * -16777216 + (j1 == s ? 8388608 : 0) + (j2 == s ? 4194304 : 0);
            Boundaries.made(Setup.of(LONG + 1024 * s, BEHIND + 8192 * j1 + 2048 * j2), "LR=69 PC=" + (68 + number));
        }
        for (int b = 0; b < 10; b++) {
            Boundaries.made(Setup.of(LONG + (1 << b), BEHIND + 8192 + 2048), "LR=69 PC=" + (68 + (4096 << b)));
        }
        for (int b = 0; b < 11; b++) {
            Boundaries.made(Setup.of(LONG, BEHIND + 8192 + 2048 + (1 << b)), "LR=69 PC=" + (68 + (2 << b)));
        }
    }

    @Sentence("29, 31 and other 30: faults.")
    static void noInstructionsAtAll() {
        for (int kind : new int[] {29, 31}) {
            for (int low : new int[] {0, 1, 1023, 1024, 2047}) Boundaries.fault(Setup.of(kind * 2048 + low, BEHIND));
        }
    }
}
