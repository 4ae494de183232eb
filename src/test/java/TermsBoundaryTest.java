/** The boundary cases of the document's terms: what is there, registers, flags, adding with carry, an instruction. */
public final class TermsBoundaryTest {
    private static final int MIN = Integer.MIN_VALUE;
    private static final int MAX = Integer.MAX_VALUE;
    /** The least and the largest memory, and two that are not divided by 8. */
    private static final int[] SIZES = {128, 132, 2044, 2048};
    private static final int WRITTEN = 0x11223344;
    private static final int LAST = 0x81828384;

    public static void main(String[] args) throws IllegalAccessException {
        Boundaries.run(TermsBoundaryTest.class);
    }

    /** Reads and writes of one place: h, its bytes, whether it writes, whether it reads with sign. */
    private record Access(int h, int bytes, boolean writes, boolean signed) {
        Setup at(int size, int address) {
            return Setup.sized(size, 96, h).word(size - 4, LAST).r(0, WRITTEN).r(1, address - 40).r(2, 40);
        }

        String lastOne(int size) {
            int up = 32 - 8 * bytes;
            if (writes) return "@" + (size - 4) + "=" + (WRITTEN << up | LAST & (1 << up) - 1);
            return "R0=" + (signed ? LAST >> up : LAST >>> up);
        }
    }

    private static Access[] accesses() {
        Access[] all = new Access[14];
        int[] bytes = {4, 2, 1, 1, 4, 2, 1, 2};
        for (int kind = 0; kind < 8; kind++) {
            all[kind] = new Access(Code.atSum(kind, 0, 1, 2), bytes[kind], kind < 3, kind == 3 || kind == 7);
        }
        // The offset stands for the 40 that R2 holds above.
        int[] sizes = {4, 4, 1, 1, 2, 2};
        int[] offsets = {10, 10, 31, 31, 20, 20};
        for (int kind = 0; kind < 6; kind++) {
            all[8 + kind] = new Access(Code.atOffset(12 + kind, 0, 1, offsets[kind]), sizes[kind], kind % 2 == 0, false);
        }
        return all;
    }

    private static Setup at(Access a, int size, int address) {
        Setup s = a.at(size, address);
        // A byte's offset is 31 at most.
        return a.h >>> 12 == 7 ? s.r(1, address - 31) : s;
    }

    @Sentence("MEMORY is SIZE bytes")
    static void everyByteIsOneOfItsOwn() {
        ThumbCore x = new ThumbCore(128);
        for (int a = 0; a < 128; a++) x.poke(a, 255 - a, 1);
        for (int a = 0; a < 128; a++) Boundaries.due("byte " + a, x.peek(a), 255 - a);
        ThumbCore large = new ThumbCore(2048);
        for (int a = 0; a < 2048; a += 16) large.poke(a + a / 16 % 13, a / 16, 4);
        for (int a = 0; a < 2048; a += 16) Boundaries.due("byte of " + a, large.peek(a + a / 16 % 13), a / 16);
    }

    @Sentence("all its bytes are below SIZE")
    static void theLastOneIsThere() {
        for (int size : SIZES) for (Access a : accesses()) Boundaries.made(at(a, size, size - a.bytes), a.lastOne(size));
    }

    @Sentence("all its bytes are below SIZE")
    static void theOneBehindTheLastIsNotThere() {
        for (int size : SIZES) for (Access a : accesses()) Boundaries.fault(at(a, size, size));
    }

    @Sentence("all its bytes are below SIZE")
    static void oneThatReachesOverTheEndIsNotThere() {
        for (Access a : accesses()) {
            for (int over = 1; over < a.bytes; over++) Boundaries.fault(at(a, 128, 128 - over));
        }
    }

    @Sentence("A half or word is THERE at an address (an int without sign) if it is divided by 2 or 4")
    static void aHalfNotDividedBy2IsNotThere() {
        for (Access a : accesses()) {
            if (a.bytes == 2) for (int address : new int[] {1, 117, 119}) Boundaries.fault(at(a, 128, address));
        }
    }

    @Sentence("A half or word is THERE at an address (an int without sign) if it is divided by 2 or 4")
    static void aHalfNotDividedBy4IsThere() {
        for (Access a : accesses()) {
            if (a.bytes == 2 && !a.writes) Boundaries.made(at(a, 128, 118).word(116, 0x00070009), "R0=7");
            if (a.bytes == 2 && a.writes) Boundaries.made(at(a, 128, 118).word(116, 9), "@116=0x33440009");
        }
    }

    @Sentence("A half or word is THERE at an address (an int without sign) if it is divided by 2 or 4")
    static void aWordNotDividedBy4IsNotThere() {
        for (Access a : accesses()) {
            if (a.bytes == 4) for (int address : new int[] {1, 117, 118, 119}) Boundaries.fault(at(a, 128, address));
        }
    }

    @Sentence("a byte, if that is")
    static void aByteIsThereAtAnyAddressBelowTheEnd() {
        for (Access a : accesses()) {
            if (a.bytes == 1 && !a.writes) {
                for (int b = 0; b < 4; b++) Boundaries.made(at(a, 128, 116 + b).word(116, 0x04030201), "R0=" + (b + 1));
            }
        }
        int[] written = {0x04030244, 0x04034401, 0x04440201, 0x44030201};
        for (Access a : accesses()) {
            if (a.bytes == 1 && a.writes) {
                for (int b = 0; b < 4; b++) Boundaries.made(at(a, 128, 116 + b).word(116, 0x04030201), "@116=" + written[b]);
            }
        }
    }

    @Sentence("an address (an int without sign)")
    static void anAddressWithBit31IsFarBehindTheEnd() {
        for (Access a : accesses()) {
            for (int address : new int[] {-1, -a.bytes, -128, MIN, MIN + 64}) Boundaries.fault(at(a, 128, address));
        }
    }

    @Sentence("Numbers have 32 bits")
    static void anAddressGoesRoundBehind32Bits() {
        Boundaries.made(Setup.of(Code.atSum(4, 0, 1, 2)).r(1, -4).r(2, 8), "R0=65");
        Boundaries.made(Setup.of(Code.atSum(4, 0, 1, 2)).r(1, MIN).r(2, MIN), "R0=280");
        Boundaries.made(Setup.of(Code.atOffset(13, 0, 1, 31)).r(1, -120), "R0=65");
        Boundaries.made(Setup.of(Code.atOffset(15, 0, 1, 31)).r(1, -27), "R0=65");
        Boundaries.made(Setup.of(Code.atOffset(17, 0, 1, 31)).r(1, -58), "R0=65");
        Boundaries.made(Setup.of(Code.wide(19, 0, 255)).r(13, -1016), "R0=65");
    }

    @Sentence("a HALF is two of them, a WORD four, the lowest byte first")
    static void theLowestByteIsFirst() {
        Setup written = Setup.of(Code.atSum(0, 0, 1, 2), Code.atSum(1, 0, 1, 3)).all(0x01020304, 200, 20, 24);
        ThumbCore x = written.make();
        x.run(2);
        int[] bytes = {4, 3, 2, 1, 4, 3, 0, 0};
        for (int b = 0; b < 8; b++) Boundaries.due("byte " + b, x.peek(220 + b), bytes[b]);
        Setup bytewise = Setup.of(Code.atSum(4, 0, 1, 2)).r(1, 220);
        for (int b = 0; b < 4; b++) {
            int at = b;
            bytewise.does(y -> y.poke(220 + at, bytes[at], 1));
        }
        Boundaries.made(bytewise, "R0=0x01020304");
    }

    @Sentence("13 is SP (its two lowest bits always are 0)")
    static void spIsSetWithoutItsTwoLowestBits() {
        for (int low = 0; low < 4; low++) {
            ThumbCore x = Setup.of().r(13, 200 + low).make();
            Boundaries.due("SP", x.register(13), 200);
        }
    }

    @Sentence("13 is SP (its two lowest bits always are 0)")
    static void spBeginsWithoutItsTwoLowestBits() {
        for (int low = 0; low < 4; low++) {
            ThumbCore x = Setup.sized(Setup.SIZE, 200 + low).make();
            Boundaries.due("SP", x.register(13), 200);
        }
    }

    @Sentence("15 PC (its lowest bit always is 0)")
    static void pcIsSetWithoutItsLowestBit() {
        int[] want = {200, 200, 202, 202};
        for (int low = 0; low < 4; low++) {
            ThumbCore x = Setup.of().r(15, 200 + low).make();
            Boundaries.due("PC", x.register(15), want[low]);
        }
    }

    @Sentence("15 PC (its lowest bit always is 0)")
    static void pcBeginsWithoutItsLowestBit() {
        int[] want = {200, 200, 202, 202};
        for (int low = 0; low < 4; low++) {
            ThumbCore x = Setup.of().word(4, 200 + low).does(ThumbCore::reset).make();
            Boundaries.due("PC", x.register(15), want[low]);
        }
    }

    @Sentence("NZ of a number: N is its bit 31, Z whether it is 0.")
    static void nIsBit31() {
        int[] numbers = {MIN, -1, MIN + 1, MAX, 1, 0x40000000};
        for (int i = 0; i < numbers.length; i++) {
            String flags = i < 3 ? "flags=NCV" : "flags=CV";
            Boundaries.made(Setup.of(Code.two(12, 0, 1)).flags("ZCV").r(1, numbers[i]), "R0=" + numbers[i] + " " + flags);
        }
    }

    @Sentence("NZ of a number: N is its bit 31, Z whether it is 0.")
    static void zIsWhetherItIs0() {
        Boundaries.made(Setup.of(Code.two(12, 0, 1)).flags("N"), "flags=Z");
        Boundaries.made(Setup.of(Code.two(12, 0, 1)).flags("Z").r(1, 1), "R0=1 flags=");
        Boundaries.made(Setup.of(Code.two(12, 0, 1)).flags("Z").r(1, MIN), "R0=" + MIN + " flags=N");
    }

    /** x + y + c by the instruction that adds C. */
    private static void adds(int x, int y, int c, int sum, String flags) {
        Setup s = Setup.of(Code.two(5, 0, 1)).flags(c == 1 ? "C" : "").all(x, y);
        Boundaries.made(s, "R0=" + sum + " flags=" + flags);
    }

    @Sentence("C what goes beyond 32 bits")
    static void carryIsWhatGoesBeyond32Bits() {
        adds(-1, 0, 0, -1, "N");
        adds(-1, 0, 1, 0, "ZC");
        adds(-1, 1, 0, 0, "ZC");
        adds(-1, -1, 0, -2, "NC");
        adds(-1, -1, 1, -1, "NC");
        adds(MAX, MIN, 0, -1, "N");
        adds(MAX, MIN, 1, 0, "ZC");
        adds(0, -1, 1, 0, "ZC");
        adds(0, 0, 1, 1, "");
    }

    @Sentence("V whether it is another number than with signs")
    static void overflowIsAnotherNumberThanWithSigns() {
        adds(MAX, 0, 0, MAX, "");
        adds(MAX, 0, 1, MIN, "NV");
        adds(MAX, 1, 0, MIN, "NV");
        adds(MAX, MAX, 1, -1, "NV");
        adds(MIN, 0, 0, MIN, "N");
        adds(MIN, -1, 0, MAX, "CV");
        adds(MIN, -1, 1, MIN, "NC");
        adds(MIN, MIN, 0, 0, "ZCV");
        adds(MIN, MIN, 1, 1, "CV");
    }

    @Sentence("ADD WITH CARRY of x, y, c: x + y + c, NZ of that, C what goes beyond 32 bits, V whether it is another number than with signs.")
    static void addingWithCarryAtEveryEdge() {
        int[] edges = {0, 1, 2, MAX - 1, MAX, MIN, MIN + 1, -2, -1};
        for (int x : edges) for (int y : edges) for (int c = 0; c < 2; c++) {
            long without = Integer.toUnsignedLong(x) + Integer.toUnsignedLong(y) + c;
            long with = (long) x + y + c;
            int sum = (int) with;
            String flags = (sum < 0 ? "N" : "") + (sum == 0 ? "Z" : "") + (without >= 1L << 32 ? "C" : "")
                + (with < MIN || with > MAX ? "V" : "");
            adds(x, y, c, sum, flags);
        }
    }

    @Sentence("MASK is on or off.")
    static void maskOnTwiceIsOn() {
        Boundaries.made(Setup.of(Code.MASK_ON), "MASK=1 present=0");
        Boundaries.made(Setup.of(Code.MASK_ON).masked(), "");
        Boundaries.made(Setup.of(Code.MASK_OFF).masked(), "MASK=0 present=4");
        Boundaries.made(Setup.of(Code.MASK_OFF), "");
    }

    @Sentence("AN INSTRUCTION is the half h at PC; d = h mod 8, n = h / 8 mod 8, m = h / 64 mod 8, i = h / 64 mod 32, r = h / 256 mod 8, k = h mod 256. Rx is register x.")
    static void theFirstAndTheLastRegisterAndNumber() {
        Boundaries.made(Setup.of(Code.three(0, 7, 0, 0)).r(0, 4), "R7=8");
        Boundaries.made(Setup.of(Code.three(0, 0, 7, 0)).r(7, 4), "R0=4");
        Boundaries.made(Setup.of(Code.three(0, 0, 0, 7)).r(7, 4), "R0=4");
        Boundaries.made(Setup.of(Code.three(0, 7, 7, 7)).r(7, 4), "R7=8");
        Boundaries.made(Setup.of(Code.move(Code.UP, 7, 7, 31)).r(7, 1), "R7=" + MIN + " flags=N");
        Boundaries.made(Setup.of(Code.wide(4, 7, 255)), "R7=255");
        Boundaries.made(Setup.of(Code.wide(4, 0, 1)), "R0=1");
    }

    private static final String FIELDS = "d = h mod 8, n = h / 8 mod 8, m = h / 64 mod 8, i = h / 64 mod 32, r = h / 256 mod 8, k = h mod 256";

    /** Each kind that has d and n, from each register into each other one. */
    @Sentence(FIELDS)
    static void everyRegisterInEveryKindWithDAndN() {
        for (int d = 0; d < 8; d++) {
            int n = 7 - d;
            Boundaries.made(Setup.of(Code.move(Code.UP, d, n, 1)).r(n, 200), "R" + d + "=400");
            Boundaries.made(Setup.of(Code.move(Code.DOWN, d, n, 1)).r(n, 200), "R" + d + "=100");
            Boundaries.made(Setup.of(Code.move(Code.DOWN_SIGNED, d, n, 1)).r(n, 200), "R" + d + "=100");
            Boundaries.made(Setup.of(Code.three(3, d, n, 7)).r(n, 200), "R" + d + "=193 flags=C");
            Boundaries.made(Setup.of(Code.two(15, d, n)).r(n, 200), "R" + d + "=-201 flags=N");
            Boundaries.made(Setup.of(Code.other(2, n * 8 + d)).r(n, 200), "R" + d + "=200");
            Boundaries.made(Setup.of(Code.other(10, n * 8 + d)).r(n, 200), "R" + d + "=0xC8000000");
            Boundaries.made(Setup.of(Code.atOffset(13, d, n, 1)).r(n, 280).word(284, 9), "R" + d + "=9");
            Boundaries.made(Setup.of(Code.atOffset(12, d, n, 1)).r(n, 280).r(d, 9), "@284=9");
        }
    }

    @Sentence(FIELDS)
    static void everyRegisterInEveryKindWithDAndNAndM() {
        for (int d = 0; d < 8; d++) {
            int n = (d + 1) % 8;
            int m = (d + 3) % 8;
            Boundaries.made(Setup.of(Code.three(0, d, n, m)).r(n, 200).r(m, 3), "R" + d + "=203");
            Boundaries.made(Setup.of(Code.atSum(4, d, n, m)).r(n, 200).r(m, 84).word(284, 9), "R" + d + "=9");
            Boundaries.made(Setup.of(Code.atSum(0, d, n, m)).r(n, 200).r(m, 84).r(d, 9), "@284=9");
        }
    }

    @Sentence(FIELDS)
    static void everyRegisterInEveryKindWithR() {
        for (int r = 0; r < 8; r++) {
            Boundaries.made(Setup.of(Code.wide(4, r, 9)), "R" + r + "=9");
            Boundaries.made(Setup.of(Code.wide(5, r, 9)).r(r, 9), "flags=ZC");
            Boundaries.made(Setup.of(Code.wide(6, r, 9)).r(r, 9), "R" + r + "=18");
            Boundaries.made(Setup.of(Code.wide(7, r, 9)).r(r, 10), "R" + r + "=1 flags=C");
            Boundaries.made(Setup.of(Code.wide(9, r, 54)).word(284, 9), "R" + r + "=9");
            Boundaries.made(Setup.of(Code.wide(18, r, 1)).r(r, 9), "@284=9");
            Boundaries.made(Setup.of(Code.wide(19, r, 1)).word(284, 9), "R" + r + "=9");
            Boundaries.made(Setup.of(Code.wide(20, r, 1)), "R" + r + "=72");
            Boundaries.made(Setup.of(Code.wide(21, r, 1)), "R" + r + "=284");
            Boundaries.made(Setup.of(Code.wide(24, r, 1 << r)).r(r, 284), "@284=284 R" + r + "=288");
            Boundaries.made(Setup.of(Code.wide(25, r, 1 << r)).r(r, 284).word(284, 9), "R" + r + "=9");
        }
    }

    @Sentence("HERE is PC + 4 (PC being the address of h)")
    static void hereIsFourBehindTheInstruction() {
        Boundaries.made(Setup.of(Code.high(2, 0, 15)), "R0=68");
        Boundaries.made(Setup.of().code(66, Code.high(2, 0, 15)).r(15, 66), "R0=70");
        Boundaries.made(Setup.of().code(286, Code.high(2, 0, 15)).r(15, 286), "R0=290");
        Boundaries.made(Setup.of().code(0, Code.high(2, 0, 15)).r(15, 0), "R0=4");
    }

    @Sentence("An address that is not there for what is read or written, and what is no instruction, is a FAULT")
    static void anInstructionThatIsNotThereIsAFault() {
        for (int at : new int[] {288, 290, 2048, MAX, MIN, -2, -288}) Boundaries.fault(Setup.of().numbered().r(15, at));
    }

    @Sentence("nothing is done of it then")
    static void ofManyWordsNothingIsDoneIfTheLastIsNotThere() {
        Boundaries.fault(Setup.of(Code.wide(24, 1, 0x0D)).all(1, 280, 3, 4));
        Boundaries.fault(Setup.of(Code.wide(25, 1, 0x0D)).all(1, 280, 3, 4));
        Boundaries.fault(Setup.of(Code.pop(0x07)).numbered());
        Boundaries.fault(Setup.of(Code.popAndGo(0x03)).numbered());
    }

    @Sentence("nothing is done of it then")
    static void ofAFaultNoFlagIsChanged() {
        for (String flags : new String[] {"", "NZCV"}) {
            Boundaries.fault(Setup.of(Code.WRONG).numbered().flags(flags));
            Boundaries.fault(Setup.of(Code.high(1, 0, 1)).numbered().flags(flags));
            Boundaries.fault(Setup.of(Code.high(1, 15, 1)).numbered().flags(flags));
        }
    }

    @Sentence("Otherwise PC is 2 more, if nothing else is said.")
    static void behindTheLastHalfNothingIsThere() {
        Setup last = Setup.of().code(286, Code.NOTHING).r(15, 286);
        Boundaries.made(last, "PC=288");
        Boundaries.fault(last.step());
    }
}
