/** Promise 5 and the terms it rests on: each kind of instruction, its edges, and its faults. */
public final class InstructionTest {
    private static final Check CHECK = new Check();
    private static final int N = Bench.N;
    private static final int Z = Bench.Z;
    private static final int C = Bench.C;
    private static final int V = Bench.V;
    private static final int MIN = Integer.MIN_VALUE;
    private static final int MAX = Integer.MAX_VALUE;

    public static void main(String[] args) {
        movesByConstant();
        addsOfThree();
        bytes();
        logic();
        movesByRegister();
        turns();
        carries();
        highRegisters();
        goes();
        wordsFromBase();
        atSums();
        atOffsets();
        stackMoves();
        extensions();
        pushes();
        pops();
        masks();
        swaps();
        hints();
        storesMany();
        loadsMany();
        branches();
        farBranches();
        noInstructions();
        places();
        CHECK.end();
    }

    /** Makes h with R0, R1, .. and flags: what register k and the flags are then. */
    private static void gives(String what, int h, int flags, int[] registers, int k, int value, int flagsThen) {
        ThumbCore x = Bench.registers(Bench.with(h), registers);
        Bench.flags(x, flags);
        CHECK.due(what + ": step", x.step(), 0);
        CHECK.due(what + ": register", x.register(k), value);
        CHECK.due(what + ": flags", Bench.flags(x), flagsThen);
        CHECK.due(what + ": PC", x.register(15), 66);
        CHECK.due(what + ": no exception", x.about(0), 0);
    }

    private static int[] r(int... values) {
        return values;
    }

    /** A step that must be a fault: 3 is entered from the same address, and nothing else has changed. */
    private static void faults(String what, ThumbCore x) {
        int[] before = new int[16];
        for (int k = 0; k < 16; k++) before[k] = x.register(k);
        int status = x.status();
        int mask = x.about(2);
        int[] low = new int[64];
        for (int a = 0; a < 64; a++) low[a] = x.peek(64 + a);
        int sp = before[13] - 32 - before[13] % 8;
        CHECK.due(what + ": step", x.step(), 0);
        CHECK.due(what + ": current", x.about(0), 3);
        CHECK.due(what + ": PC", x.register(15), Bench.handler(3));
        CHECK.due(what + ": LR", x.register(14), -7);
        CHECK.due(what + ": SP", x.register(13), sp);
        for (int k = 0; k < 13; k++) CHECK.due(what + ": register " + k, x.register(k), before[k]);
        for (int k = 0; k < 4; k++) CHECK.due(what + ": laid " + k, Bench.word(x, sp + 4 * k), before[k]);
        CHECK.due(what + ": laid 12", Bench.word(x, sp + 16), before[12]);
        CHECK.due(what + ": laid LR", Bench.word(x, sp + 20), before[14]);
        CHECK.due(what + ": laid address", Bench.word(x, sp + 24), before[15]);
        CHECK.due(what + ": laid status", Bench.word(x, sp + 28), status | (before[13] % 8 != 0 ? 512 : 0));
        CHECK.due(what + ": MASK", x.about(2), mask);
        for (int a = 0; a < 64; a++) CHECK.due(what + ": memory", x.peek(64 + a), low[a]);
    }

    private static void faults(String what, int h, int... registers) {
        faults(what, Bench.registers(Bench.with(h), registers));
    }

    private static void movesByConstant() {
        gives("up 1", 0x0048, V, r(0, 0x80000001), 0, 2, C | V);
        gives("up 31", 0x07C8, C, r(0, 1), 0, MIN, N);
        gives("up 31, last bit out", 0x07C8, 0, r(0, 2), 0, 0, Z | C);
        gives("up 0 leaves C on", 0x0008, C | V, r(9, MIN), 0, MIN, N | C | V);
        gives("up 0 leaves C off", 0x0008, 0, r(9, 0), 0, 0, Z);
        gives("down 1", 0x0848, 0, r(0, -1), 0, MAX, C);
        gives("down 31", 0x0FC8, C, r(0, 0x80000000), 0, 1, 0);
        gives("down 0 is 32", 0x0808, 0, r(0, MIN), 0, 0, Z | C);
        gives("down 0 is 32, bit 31 off", 0x0808, C, r(0, MAX), 0, 0, Z);
        gives("down with sign 1", 0x1048, 0, r(0, -3), 0, -2, N | C);
        gives("down with sign 31", 0x17C8, 0, r(0, MIN), 0, -1, N);
        gives("down with sign 0 is 32", 0x1008, 0, r(0, MIN), 0, -1, N | C);
        gives("down with sign 0 is 32, positive", 0x1008, C, r(0, MAX), 0, 0, Z);
        gives("another register", 0x00FE, 0, r(0, 0, 0, 0, 0, 0, 0, 5), 6, 40, 0);
    }

    private static void addsOfThree() {
        gives("add", 0x1888, N | Z | C | V, r(0, 3, 4), 0, 7, 0);
        gives("add beyond signs", 0x1888, 0, r(0, MAX, 1), 0, MIN, N | V);
        gives("add beyond 32 bits", 0x1888, 0, r(0, -1, 1), 0, 0, Z | C);
        gives("add beyond both", 0x1888, 0, r(0, MIN, MIN), 0, 0, Z | C | V);
        gives("less, same", 0x1A88, 0, r(0, 5, 5), 0, 0, Z | C);
        gives("less, below", 0x1A88, C, r(0, 4, 5), 0, -1, N);
        gives("less, beyond signs", 0x1A88, 0, r(0, MIN, 1), 0, MAX, C | V);
        gives("constant", 0x1DC8, 0, r(0, -7), 0, 0, Z | C);
        gives("constant 0", 0x1C08, C, r(0, 9), 0, 9, 0);
        gives("less constant", 0x1E48, 0, r(0, 0), 0, -1, N);
        gives("less constant 0", 0x1E08, 0, r(0, 5), 0, 5, C);
    }

    private static void bytes() {
        gives("constant", 0x25FF, N | C | V, r(), 5, 255, C | V);
        gives("constant 0", 0x2500, N, r(0, 0, 0, 0, 0, 9), 5, 0, Z);
        gives("compare, same", 0x2D05, 0, r(0, 0, 0, 0, 0, 5), 5, 5, Z | C);
        gives("compare, below", 0x2D05, 0, r(0, 0, 0, 0, 0, 4), 5, 4, N);
        gives("compare, beyond signs", 0x2D05, 0, r(0, 0, 0, 0, 0, MIN), 5, MIN, C | V);
        gives("add", 0x35FF, C, r(0, 0, 0, 0, 0, 1), 5, 256, 0);
        gives("add beyond 32 bits", 0x35FF, 0, r(0, 0, 0, 0, 0, -1), 5, 254, C);
        gives("add beyond signs", 0x3501, 0, r(0, 0, 0, 0, 0, MAX), 5, MIN, N | V);
        gives("less", 0x3D01, C, r(0, 0, 0, 0, 0, 0), 5, -1, N);
        gives("less, same", 0x3DFF, 0, r(0, 0, 0, 0, 0, 255), 5, 0, Z | C);
    }

    private static void logic() {
        gives("and", 0x4008, C | V | N, r(12, 10), 0, 8, C | V);
        gives("and to 0", 0x4008, 0, r(1, 2), 0, 0, Z);
        gives("exclusive or", 0x4048, Z, r(12, 10), 0, 6, 0);
        gives("or", 0x4308, C, r(12, MIN), 0, MIN + 12, N | C);
        gives("and turned", 0x4388, V, r(12, 10), 0, 4, V);
        gives("turned", 0x43C8, 0, r(7, 0), 0, -1, N);
        gives("times", 0x4348, C | V, r(65536, 65536), 0, 0, Z | C | V);
        gives("times, with sign", 0x4348, 0, r(-3, 5), 0, -15, N);
        gives("flags of and", 0x4208, C, r(MIN, -1), 0, MIN, N | C);
        gives("flags of and, 0", 0x4208, N, r(5, 2), 0, 5, Z);
    }

    private static void movesByRegister() {
        gives("up 0", 0x4088, C, r(3, 0), 0, 3, C);
        gives("up 256 is 0", 0x4088, C, r(3, 256), 0, 3, C);
        gives("up 1", 0x4088, 0, r(0x80000001, 1), 0, 2, C);
        gives("up 31", 0x4088, C, r(1, 31), 0, MIN, N);
        gives("up 32, bit on", 0x4088, 0, r(1, 32), 0, 0, Z | C);
        gives("up 32, bit off", 0x4088, C, r(-2, 32), 0, 0, Z);
        gives("up 33", 0x4088, C, r(-1, 33), 0, 0, Z);
        gives("up 255", 0x4088, C, r(-1, 255), 0, 0, Z);
        gives("down 0", 0x40C8, C | V, r(MIN, 0), 0, MIN, N | C | V);
        gives("down 257 is 1", 0x40C8, 0, r(-1, 257), 0, MAX, C);
        gives("down 32, bit on", 0x40C8, 0, r(MIN, 32), 0, 0, Z | C);
        gives("down 32, bit off", 0x40C8, C, r(MAX, 32), 0, 0, Z);
        gives("down 33", 0x40C8, C, r(-1, 33), 0, 0, Z);
        gives("with sign 0", 0x4108, C, r(MIN, 0), 0, MIN, N | C);
        gives("with sign 1", 0x4108, 0, r(-3, 1), 0, -2, N | C);
        gives("with sign 31", 0x4108, C, r(MIN, 31), 0, -1, N);
        gives("with sign 32", 0x4108, 0, r(MIN, 32), 0, -1, N | C);
        gives("with sign 255", 0x4108, 0, r(MIN, 255), 0, -1, N | C);
        gives("with sign 33, positive", 0x4108, C, r(MAX, 33), 0, 0, Z);
    }

    private static void turns() {
        gives("round 1", 0x41C8, 0, r(1, 1), 0, MIN, N | C);
        gives("round 4", 0x41C8, C, r(16, 4), 0, 1, 0);
        gives("round 0", 0x41C8, C, r(5, 0), 0, 5, C);
        gives("round 256 is 0", 0x41C8, C, r(5, 256), 0, 5, C);
        gives("round 32, bit on", 0x41C8, 0, r(MIN, 32), 0, MIN, N | C);
        gives("round 32, bit off", 0x41C8, C, r(5, 32), 0, 5, 0);
        gives("round 33", 0x41C8, 0, r(3, 33), 0, MIN + 1, N | C);
        gives("round nothing", 0x41C8, C, r(0, 7), 0, 0, Z);
    }

    private static void carries() {
        gives("add with C", 0x4148, C, r(1, 2), 0, 4, 0);
        gives("add without C", 0x4148, 0, r(1, 2), 0, 3, 0);
        gives("add with C beyond", 0x4148, C, r(-1, 0), 0, 0, Z | C);
        gives("add with C beyond by C alone", 0x4148, C, r(-1, -1), 0, -1, N | C);
        gives("add with C beyond signs", 0x4148, C, r(MAX, 0), 0, MIN, N | V);
        gives("less with C", 0x4188, C, r(5, 3), 0, 2, C);
        gives("less without C", 0x4188, 0, r(5, 3), 0, 1, C);
        gives("less without C, same", 0x4188, 0, r(0, 0), 0, -1, N);
        gives("negative", 0x4248, 0, r(9, 5), 0, -5, N);
        gives("negative 0", 0x4248, 0, r(9, 0), 0, 0, Z | C);
        gives("negative least", 0x4248, 0, r(9, MIN), 0, MIN, N | V);
        gives("compare", 0x4288, 0, r(5, 5), 0, 5, Z | C);
        gives("compare below", 0x4288, C, r(4, 5), 0, 4, N);
        gives("compare sum", 0x42C8, 0, r(-5, 5), 0, -5, Z | C);
        gives("compare sum beyond signs", 0x42C8, 0, r(MAX, MAX), 0, MAX, N | V);
    }

    private static void highRegisters() {
        gives("add to 8", 0x4488, N | Z | C | V, r(0, 6, 0, 0, 0, 0, 0, 0, 5), 8, 11, N | Z | C | V);
        gives("add low", 0x4408, C, r(-1, 1), 0, 0, C);
        gives("add to SP", 0x448D, 0, r(0, 7), 13, 244, 0);
        gives("add HERE", 0x4478, 0, r(5), 0, 73, 0);
        gives("take HERE", 0x4678, N, r(5), 0, 68, N);
        gives("take to SP", 0x468D, 0, r(0, 103), 13, 100, 0);
        gives("take SP to 9", 0x46E9, 0, r(), 9, 240, 0);
        gives("take low", 0x4608, Z, r(1, MIN), 0, MIN, Z);
        gives("compare 8", 0x4588, 0, r(0, 5, 0, 0, 0, 0, 0, 0, 5), 8, 5, Z | C);
        gives("compare with 8", 0x4540, 0, r(5, 0, 0, 0, 0, 0, 0, 0, 6), 0, 5, N);
        for (int h : new int[] {0x4508, 0x453F, 0x458F, 0x45F8, 0x4578, 0x45FF}) faults("compare " + h, h);
        CHECK.due("add to PC", goesTo(0x448F, 0, 7), 74);
        CHECK.due("take to PC", goesTo(0x468F, 0, 101), 100);
        CHECK.due("take to PC, even", goesTo(0x468F, 0, 100), 100);
        CHECK.due("take to PC without a return", goesTo(0x468F, 0, -7), -8);
    }

    private static int goesTo(int h, int... registers) {
        ThumbCore x = Bench.registers(Bench.with(h), registers);
        CHECK.due("step", x.step(), 0);
        CHECK.due("no fault", x.about(0), 0);
        return x.register(15);
    }

    private static void goes() {
        CHECK.due("go", goesTo(0x4708, 0, 101), 100);
        CHECK.due("go, no exception being active", goesTo(0x4708, 0, -7), -8);
        CHECK.due("go, no exception being active", goesTo(0x4708, 0, -15), -16);
        for (int h : new int[] {0x4709, 0x470F, 0x4778, 0x4789, 0x47F8, 0x4768}) faults("go " + h, h, 0, 101);
        faults("go to even", 0x4708, 0, 100);
        faults("go to even, with LR", 0x4788, 0, 100);
        ThumbCore x = Bench.registers(Bench.with(0x4708), 0, 101);
        x.step();
        CHECK.due("LR stays", x.register(14), -1);
        ThumbCore y = Bench.registers(Bench.with(0x4788), 0, 101);
        y.step();
        CHECK.due("with LR, PC", y.register(15), 100);
        CHECK.due("with LR, LR", y.register(14), 67);
        ThumbCore z = Bench.with(0x47F0);
        z.set(14, 121);
        z.step();
        CHECK.due("to LR with LR, PC", z.register(15), 120);
        CHECK.due("to LR with LR, LR", z.register(14), 67);
    }

    private static ThumbCore filled(int... halves) {
        ThumbCore x = Bench.with(halves);
        x.poke(100, 0x8182F384, 4);
        x.poke(104, 0x11223344, 4);
        x.poke(252, 0x55667788, 4);
        return x;
    }

    private static void reads(String what, int h, int value, int... registers) {
        ThumbCore x = Bench.registers(filled(h), registers);
        Bench.flags(x, N | C);
        CHECK.due(what + ": step", x.step(), 0);
        CHECK.due(what + ": R0", x.register(0), value);
        CHECK.due(what + ": flags", Bench.flags(x), N | C);
        CHECK.due(what + ": PC", x.register(15), 66);
    }

    private static void writes(String what, int h, int address, int word, int... registers) {
        ThumbCore x = Bench.registers(filled(h), registers);
        Bench.flags(x, Z | V);
        CHECK.due(what + ": step", x.step(), 0);
        CHECK.due(what + ": memory", Bench.word(x, address), word);
        CHECK.due(what + ": flags", Bench.flags(x), Z | V);
        CHECK.due(what + ": PC", x.register(15), 66);
    }

    private static void wordsFromBase() {
        reads("word at HERE", 0x4808, 0x8182F384);
        ThumbCore x = filled(0xBF00, 0x4808);
        x.run(2);
        CHECK.due("HERE without its two lowest bits", x.register(0), 0x8182F384);
        reads("last word at HERE", 0x482E, 0x55667788);
        faults("word behind the end at HERE", 0x482F);
        reads("word at SP", 0x9803, 0x55667788);
        faults("word behind the end at SP", 0x9804);
        writes("word to SP", 0x9003, 252, -5, -5);
        faults("word to behind the end at SP", 0x9004);
        reads("HERE", 0xA002, 76);
        ThumbCore y = filled(0xBF00, 0xA0FF);
        y.run(2);
        CHECK.due("HERE without its two lowest bits", y.register(0), 68 + 1020);
        reads("SP and a number", 0xA8FF, 1260);
    }

    private static void atSums() {
        writes("word", 0x5088, 100, 0x12345678, 0x12345678, 60, 40);
        writes("half", 0x5288, 100, 0x5678F384, 0x12345678, 60, 42);
        writes("byte", 0x5488, 100, 0x8178F384, 0x12345678, 60, 42);
        reads("byte with sign", 0x5688, -124, 0, 60, 40);
        reads("byte with sign, positive", 0x5688, 0x44, 0, 60, 44);
        reads("word", 0x5888, 0x8182F384, 0, 60, 40);
        reads("word by wrapping round", 0x5888, 0x8182F384, 0, -4, 104);
        reads("half", 0x5A88, 0x8182, 0, 60, 42);
        reads("byte", 0x5C88, 0x81, 0, 60, 43);
        reads("half with sign", 0x5E88, 0xFFFFF384, 0, 60, 40);
        reads("half with sign, positive", 0x5E88, 0x1122, 0, 60, 46);
        reads("last byte", 0x5C88, 0x55, 0, 155, 100);
        reads("last half", 0x5A88, 0x5566, 0, 154, 100);
        reads("last word", 0x5888, 0x55667788, 0, 152, 100);
        for (int h : new int[] {0x5088, 0x5888}) {
            for (int a : new int[] {1, 2, 3, 154, 156, -104, MIN}) faults("word at " + a, h, 9, a, 100);
        }
        for (int h : new int[] {0x5288, 0x5A88, 0x5E88}) {
            for (int a : new int[] {1, 155, 156, -102, MIN}) faults("half at " + a, h, 9, a, 100);
        }
        for (int h : new int[] {0x5488, 0x5688, 0x5C88}) {
            for (int a : new int[] {156, -101, MIN}) faults("byte at " + a, h, 9, a, 100);
        }
    }

    private static void atOffsets() {
        writes("word", 0x6048, 100, 7, 7, 96);
        writes("word, largest", 0x67C8, 252, 7, 7, 128);
        reads("word", 0x6848, 0x8182F384, 0, 96);
        reads("word, largest", 0x6FC8, 0x55667788, 0, 128);
        writes("byte", 0x7048, 100, 0x8182F307, 7, 99);
        writes("byte, largest", 0x77C8, 100, 0x8182F307, 7, 69);
        reads("byte", 0x7848, 0x84, 0, 99);
        reads("byte, largest", 0x7FC8, 0x55, 0, 224);
        writes("half", 0x8048, 100, 0x81820007, 7, 98);
        writes("half, largest", 0x87C8, 100, 0x81820007, 7, 38);
        reads("half", 0x8848, 0xF384, 0, 98);
        reads("half, largest", 0x8FC8, 0x5566, 0, 192);
        for (int h : new int[] {0x6048, 0x6848}) for (int a : new int[] {97, 98, 252, -8}) faults("word", h, 9, a);
        for (int h : new int[] {0x8048, 0x8848}) for (int a : new int[] {97, 254, -4}) faults("half", h, 9, a);
        for (int h : new int[] {0x7048, 0x7848}) for (int a : new int[] {255, -2}) faults("byte", h, 9, a);
    }

    private static void stackMoves() {
        gives("grows", 0xB001, N | Z | C | V, r(), 13, 244, N | Z | C | V);
        gives("falls", 0xB081, 0, r(), 13, 236, 0);
        gives("grows most", 0xB07F, 0, r(), 13, 748, 0);
        gives("falls most", 0xB0FF, 0, r(), 13, -268, 0);
    }

    private static void extensions() {
        gives("half with sign", 0xB208, Z, r(0, 0x1234F681), 0, 0xFFFFF681, Z);
        gives("half with sign, positive", 0xB208, 0, r(0, 0xFFFF7681), 0, 0x7681, 0);
        gives("byte with sign", 0xB248, 0, r(0, 0x1234F681), 0, -127, 0);
        gives("byte with sign, positive", 0xB248, 0, r(0, 0x1234F67F), 0, 127, 0);
        gives("half", 0xB288, 0, r(0, 0x1234F681), 0, 0xF681, 0);
        gives("byte", 0xB2C8, N, r(0, 0x1234F681), 0, 0x81, N);
    }

    private static void pushes() {
        ThumbCore x = Bench.registers(Bench.with(0xB403, 0xB582, 0xB500), 11, 22, 0, 0, 0, 0, 0, 77);
        x.set(14, 99);
        x.step();
        CHECK.due("SP", x.register(13), 232);
        CHECK.due("lowest", Bench.word(x, 232), 11);
        CHECK.due("next", Bench.word(x, 236), 22);
        x.step();
        CHECK.due("SP", x.register(13), 220);
        CHECK.due("R1", Bench.word(x, 220), 22);
        CHECK.due("R7", Bench.word(x, 224), 77);
        CHECK.due("LR", Bench.word(x, 228), 99);
        x.step();
        CHECK.due("SP", x.register(13), 216);
        CHECK.due("LR alone", Bench.word(x, 216), 99);
        faults("push of nothing", 0xB400);
        ThumbCore y = Bench.registers(Bench.with(0xB403), 11, 22);
        y.set(13, 260);
        faults("push to behind the end", y);
        locks("push of three to behind the end", 0xB407, 264, 252);
        locks("push to below 0", 0xB403, 4, 0);
    }

    /** A fault whose exception can't be laid down either; the word at an address must not have been written. */
    private static void locks(String what, int h, int sp, int address) {
        ThumbCore x = Bench.registers(Bench.with(h), 11, 22, 33);
        x.set(13, sp);
        int before = Bench.word(x, address);
        CHECK.due(what + ": step", x.step(), 3);
        CHECK.due(what + ": memory", Bench.word(x, address), before);
        CHECK.due(what + ": SP", x.register(13), sp);
        CHECK.due(what + ": PC", x.register(15), 64);
    }

    private static ThumbCore stacked(int h, int... words) {
        ThumbCore x = Bench.with(h);
        for (int w = 0; w < words.length; w++) x.poke(240 + 4 * w, words[w], 4);
        return x;
    }

    private static void pops() {
        ThumbCore x = stacked(0xBC82, 5, 6);
        x.step();
        CHECK.due("R1", x.register(1), 5);
        CHECK.due("R7", x.register(7), 6);
        CHECK.due("SP", x.register(13), 248);
        CHECK.due("PC", x.register(15), 66);
        ThumbCore y = stacked(0xBD02, 5, 101);
        y.step();
        CHECK.due("R1", y.register(1), 5);
        CHECK.due("SP", y.register(13), 248);
        CHECK.due("PC", y.register(15), 100);
        ThumbCore z = stacked(0xBD00, -7);
        z.step();
        CHECK.due("SP", z.register(13), 244);
        CHECK.due("PC, no exception being active", z.register(15), -8);
        faults("pop of nothing", 0xBC00);
        faults("pop to even", stacked(0xBD02, 5, 100));
        faults("pop from behind the end", stacked(0xBC1F, 1, 2, 3, 4));
        faults("pop to where, from behind the end", stacked(0xBD0F, 1, 2, 3, 4));
        ThumbCore last = stacked(0xBC0F, 1, 2, 3, 4);
        last.step();
        CHECK.due("last word", last.register(3), 4);
        CHECK.due("SP behind the end", last.register(13), 256);
        ThumbCore to = stacked(0xBD07, 1, 2, 3, 101);
        to.step();
        CHECK.due("last word is where", to.register(15), 100);
    }

    private static void masks() {
        ThumbCore x = Bench.with(0xB672, 0xB672, 0xB662, 0xB662);
        for (int want : new int[] {1, 1, 0, 0}) {
            CHECK.due("step", x.step(), 0);
            CHECK.due("MASK", x.about(2), want);
        }
        for (int h : new int[] {0xB600, 0xB660, 0xB661, 0xB663, 0xB670, 0xB673, 0xB67A, 0xB6FF}) faults("mask " + h, h);
    }

    private static void swaps() {
        gives("word", 0xBA08, N | C, r(0, 0x11223384), 0, 0x84332211, N | C);
        gives("halves", 0xBA48, 0, r(0, 0x11223384), 0, 0x22118433, 0);
        gives("lower half with sign", 0xBAC8, 0, r(0, 0x11223384), 0, 0xFFFF8433, 0);
        gives("lower half with sign, positive", 0xBAC8, 0, r(0, 0x11228433), 0, 0x3384, 0);
        faults("no swap", 0xBA88, 0, 5);
    }

    private static void hints() {
        for (int h : new int[] {0xBF00, 0xBF10, 0xBF20, 0xBF40, 0xBFF0}) {
            gives("nothing", h, N | Z, r(8), 0, 8, N | Z);
            ThumbCore x = Bench.with(h);
            x.step();
            CHECK.due("awake", x.about(3), 0);
        }
        for (int h : new int[] {0xBF01, 0xBF08, 0xBF31, 0xBF3F, 0xBFFF}) faults("no hint", h);
        ThumbCore x = Bench.with(0xBF30);
        CHECK.due("the step that falls asleep", x.step(), 0);
        CHECK.due("asleep", x.about(3), 1);
        CHECK.due("PC", x.register(15), 66);
    }

    private static void storesMany() {
        ThumbCore x = Bench.registers(filled(0xC10D), 1, 100, 3, 4);
        x.step();
        CHECK.due("R0", Bench.word(x, 100), 1);
        CHECK.due("R2", Bench.word(x, 104), 3);
        CHECK.due("R3", Bench.word(x, 108), 4);
        CHECK.due("R1 behind", x.register(1), 112);
        ThumbCore y = Bench.registers(filled(0xC106), 1, 100, 3);
        y.step();
        CHECK.due("R1 itself", Bench.word(y, 100), 100);
        CHECK.due("R2", Bench.word(y, 104), 3);
        CHECK.due("R1 behind", y.register(1), 108);
        ThumbCore below = Bench.registers(filled(0xC101, 0xC141), 1, 100);
        below.run(2);
        CHECK.due("only others", below.register(1), 112);
        CHECK.due("no fault", x.about(0) + y.about(0) + below.about(0), 0);
        CHECK.due("PC", x.register(15), 66);
        faults("itself not lowest", 0xC103, 1, 100);
        faults("itself between others", 0xC107, 1, 100);
        faults("nothing", 0xC100, 1, 100);
        for (int a : new int[] {101, 102, 103, 252, 256, -4}) faults("not there", 0xC10D, 1, a, 3, 4);
        ThumbCore z = Bench.registers(filled(0xC105), 1, 252, 3);
        z.step();
        CHECK.due("nothing of it is written", Bench.word(z, 252), 0x55667788);
    }

    private static void loadsMany() {
        ThumbCore x = Bench.registers(filled(0xC90D), 1, 100, 3, 4);
        x.poke(108, 77, 4);
        x.step();
        CHECK.due("R0", x.register(0), 0x8182F384);
        CHECK.due("R2", x.register(2), 0x11223344);
        CHECK.due("R3", x.register(3), 77);
        CHECK.due("R1 behind", x.register(1), 112);
        for (int h : new int[] {0xC903, 0xC906}) {
            ThumbCore y = Bench.registers(filled(h), 1, 100, 3);
            y.step();
            CHECK.due("R1 as read", y.register(1), h == 0xC903 ? 0x11223344 : 0x8182F384);
            CHECK.due("no fault", y.about(0), 0);
        }
        CHECK.due("no fault", x.about(0), 0);
        CHECK.due("PC", x.register(15), 66);
        faults("nothing", 0xC900, 1, 100);
        for (int a : new int[] {101, 102, 103, 252, 256, -4}) faults("not there", 0xC90D, 1, a, 3, 4);
    }

    private static void branches() {
        for (int f = 0; f < 16; f++) {
            boolean n = f / 8 == 1;
            boolean z = f / 4 % 2 == 1;
            boolean c = f / 2 % 2 == 1;
            boolean v = f % 2 == 1;
            boolean[] met = {z, !z, c, !c, n, !n, v, !v, c && !z, !c || z, n == v, n != v, !z && n == v, z || n != v};
            for (int k = 0; k < 14; k++) {
                ThumbCore x = Bench.flags(Bench.with(0xD004 + 256 * k), f << 28);
                CHECK.due("step", x.step(), 0);
                CHECK.due("condition " + k + " with flags " + f, x.register(15), met[k] ? 76 : 66);
                CHECK.due("flags stay", Bench.flags(x), f << 28);
            }
        }
        CHECK.due("back", goesTo(0xD1FE), 64);
        CHECK.due("most back", goesTo(0xD180), 68 - 256);
        CHECK.due("most on", goesTo(0xD17F), 68 + 254);
        faults("condition 14", 0xDE00);
        CHECK.due("always, on", goesTo(0xE004), 76);
        CHECK.due("always, back", goesTo(0xE7FE), 64);
        CHECK.due("always, most back", goesTo(0xE400), 68 - 2048);
        CHECK.due("always, most on", goesTo(0xE3FF), 68 + 2046);
    }

    private static void far(int h, int second, int to) {
        ThumbCore x = Bench.with(h, second);
        CHECK.due("far: step", x.step(), 0);
        CHECK.due("far: PC", x.register(15), to);
        CHECK.due("far: LR", x.register(14), 69);
    }

    private static void farBranches() {
        far(0xF000, 0xF801, 70);
        far(0xF7FF, 0xFFFE, 64);
        far(0xF001, 0xF800, 68 + 4096);
        far(0xF3FF, 0xFFFF, 68 + 4194302);
        far(0xF000, 0xD801, 68 + 8388610);
        far(0xF000, 0xF001, 68 + 4194306);
        far(0xF000, 0xD000, 68 + 12582912);
        far(0xF400, 0xD800, 68 - 12582912);
        far(0xF400, 0xF000, 68 - 8388608);
        far(0xF400, 0xD000, 68 - 16777216);
        for (int second : new int[] {0, 0xBFFF, 0xC000, 0xCFFF, 0xE800, 0xEFFF}) faults("second half", Bench.with(0xF000, second));
        ThumbCore x = Bench.with();
        x.poke(254, 0xF000, 2);
        x.set(15, 254);
        faults("second half behind the end", x);
    }

    private static void noInstructions() {
        for (int kind : new int[] {1, 3, 7, 8, 9, 11, 14}) {
            for (int k : new int[] {0, 1, 64, 255}) faults("no instruction", 0xB000 + 256 * kind + k);
        }
        for (int h : new int[] {0xE800, 0xEFFF, 0xF800, 0xFFFF}) faults("no instruction", h);
    }

    private static void places() {
        for (int at : new int[] {256, 4096, -2, MIN}) {
            ThumbCore x = Bench.with();
            x.set(15, at);
            faults("no memory at PC", x);
        }
        ThumbCore x = Bench.with();
        x.poke(254, 0xBF00, 2);
        x.set(15, 254);
        CHECK.due("the last half", x.step(), 0);
        CHECK.due("behind it", x.register(15), 256);
        ThumbCore y = Bench.with(0x8008);
        Bench.registers(y, 0x2063, 66);
        y.run(2);
        CHECK.due("what has been written is made", y.register(0), 0x63);
    }
}
