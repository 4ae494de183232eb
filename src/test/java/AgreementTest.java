import java.util.Random;

/** The program answers as the literal model does: every half as an instruction, then long random runs of calls. */
public final class AgreementTest {
    /** The document promises nothing beyond this number of calls on one object. */
    private static final int MOST_CALLS = 512;
    private static final int[] NUMBERS = {
        0, 1, 2, 3, 4, 31, 32, 33, 64, 127, 128, 255, 256, 0x7FFFFFFF, 0x80000000, 0x80000001, -1, -2, -4, -7, -15, 0x8000,
        0xFFFF, 0x80FF, 0x1234F678};
    private static final int[] HALVES = {
        0x4770, 0x4770, 0x4770, 0xBD00, 0xBD01, 0xBD10, 0xDF00, 0xDF00, 0xDF01, 0xBF30, 0xBF30, 0xBF00, 0xB662, 0xB672,
        0xB500, 0xB501, 0xB403, 0xBC03, 0x4780, 0x47F0, 0x2001, 0x3401, 0x1C40, 0x4240, 0x4288, 0x4140, 0x4188, 0xE7FE,
        0xB082, 0xB002, 0xC107, 0xC907, 0xF7FF, 0xFFFE, 0xF000, 0xF801, 0xDE00, 0x46FE, 0x448D};

    private final Random random = new Random(20261115);
    private final Check check = new Check();
    private ThumbCore core;
    private Model model;
    private int calls;
    private int entered, slept, locked, returned;

    public static void main(String[] args) {
        new AgreementTest().all();
    }

    private void all() {
        for (int h = 0; h < 65536; h++) {
            for (int state = 0; state < 5; state++) oneInstruction(h);
        }
        for (int run = 0; run < 60000; run++) longRun(run);
        System.out.println(entered + " entered, " + slept + " asleep, " + locked + " locked, " + returned + " returned");
        check.due("exceptions were entered", entered > 10000, true);
        check.due("sleep was met", slept > 10000, true);
        check.due("lockup was met", locked > 10000, true);
        check.due("returns were met", returned > 10000, true);
        check.end();
    }

    private void begin(int size) {
        core = new ThumbCore(size);
        model = new Model(size);
        calls = 0;
    }

    private void oneInstruction(int h) {
        begin(128 + 4 * random.nextInt(17));
        int at = 64 + 2 * random.nextInt((model.size - 64) / 2);
        int before = random.nextInt(4) == 0 ? 2 * random.nextInt(model.size / 2 + 2) : 64 + 2 * random.nextInt(32);
        for (int a = 0; a < model.size; a += 4) poke(a, number(), 4);
        for (int e : new int[] {2, 3, 11, 14, 15}) poke(4 * e, 2 * random.nextInt(64) + (random.nextInt(9) == 0 ? 0 : 1), 4);
        for (int k = 0; k < 15; k++) set(k, k == 13 ? stack() : number());
        for (int i = random.nextInt(3); i > 0; i--) {
            pend(new int[] {2, 14, 15}[random.nextInt(3)]);
            step();
        }
        // A comparison in front gives the flags some value.
        poke(before, 0x4280 + random.nextInt(64), 2);
        set(15, before);
        step();
        if (random.nextInt(4) == 0) set(14, random.nextBoolean() ? -7 : -15);
        if (random.nextInt(2) == 0) set(13, stack());
        poke(at, h, 2);
        if (random.nextInt(3) == 0) poke(at + 2, 0xC000 + random.nextInt(0x4000), 2);
        set(15, at);
        step();
        compare(h);
    }

    private void longRun(int run) {
        int size = random.nextInt(5) == 0 ? random.nextInt(3000) - 300 : 128 + random.nextInt(80);
        begin(size);
        for (int a = 0; a < Math.min(model.size, 240); a += 4) poke(a, half() + (half() << 16), 4);
        poke(0, stack(), 4);
        poke(4, 64 + random.nextInt(64), 4);
        for (int e : new int[] {2, 3, 11, 14, 15}) {
            int handler = 64 + 2 * random.nextInt(32);
            poke(4 * e, handler + (random.nextInt(30) == 0 ? 0 : 1), 4);
            // Some that come back soon: to LR, or by push and pop.
            if (random.nextInt(3) != 0) poke(handler, random.nextBoolean() ? 0x4770 : 0xBD10B510, random.nextBoolean() ? 2 : 4);
        }
        reset();
        for (int i = random.nextInt(80); i > 0 && calls < MOST_CALLS - 2; i--) oneCall();
        if (calls + model.size + 40 <= MOST_CALLS) compare(run);
    }

    private void oneCall() {
        int e = new int[] {2, 3, 11, 14, 15, random.nextInt(40) - 4}[random.nextInt(6)];
        int k = random.nextInt(20) - 2;
        switch (random.nextInt(24)) {
            case 0 -> poke(address(), half(), 2);
            case 1 -> poke(address(), number(), new int[] {1, 2, 4, 3, random.nextInt()}[random.nextInt(5)]);
            case 2 -> due("peek", core.peek(same(address())), model.peek(same));
            case 3 -> { if (random.nextInt(6) == 0) reset(); }
            case 4, 5, 6, 7, 8 -> step();
            case 9 -> run(random.nextInt(12));
            case 10 -> run(random.nextInt(130) - 10);
            case 11 -> due("register", core.register(k), model.register(k));
            case 12 -> set(k, k == 13 ? stack() : k == 15 ? 64 + random.nextInt(64) : number());
            case 13 -> set(k == 13 ? 14 : k, number());
            case 14 -> set(15, 64 + random.nextInt(64));
            case 15 -> due("status", core.status(), model.status());
            case 16 -> due("about", core.about(k), model.about(k));
            case 17, 18 -> pend(e);
            case 19 -> due("exception", core.exception(e), model.exception(e));
            case 20 -> priority(e, random.nextInt(7) - 1);
            case 21 -> tick(random.nextInt(4) == 0 ? random.nextInt(1200) - 100 : random.nextInt(6), random.nextInt(4) != 0);
            case 22 -> set(13, stack());
            default -> set(15, 64 + 2 * random.nextInt(32));
        }
    }

    private int same;

    private int same(int x) {
        same = x;
        return x;
    }

    private int number() {
        int kind = random.nextInt(8);
        if (kind < 2) return NUMBERS[random.nextInt(NUMBERS.length)];
        if (kind < 5) return 4 * random.nextInt(48);
        return kind < 7 ? random.nextInt(200) : random.nextInt();
    }

    private int half() {
        return random.nextBoolean() ? HALVES[random.nextInt(HALVES.length)] : random.nextInt(65536);
    }

    private int address() {
        return random.nextInt(8) == 0 ? number() : random.nextInt(260);
    }

    private int stack() {
        int kind = random.nextInt(12);
        return kind == 0 ? number() : kind < 4 ? 4 * random.nextInt(50) : model.size - 4 * random.nextInt(12);
    }

    private void due(String what, long got, long want) {
        calls++;
        if (got != want) check.due(what + " as call " + calls, got, want);
    }

    private void poke(int a, int value, int count) {
        due("poke", core.poke(a, value, count) ? 1 : 0, model.poke(a, value, count) ? 1 : 0);
    }

    private void set(int k, int value) {
        due("set", core.set(k, value) ? 1 : 0, model.set(k, value) ? 1 : 0);
    }

    private void pend(int e) {
        due("pend", core.pend(e) ? 1 : 0, model.pend(e) ? 1 : 0);
    }

    private void priority(int e, int p) {
        due("priority", core.priority(e, p) ? 1 : 0, model.priority(e, p) ? 1 : 0);
    }

    private void tick(int reload, boolean on) {
        due("tick", core.tick(reload, on) ? 1 : 0, model.tick(reload, on) ? 1 : 0);
    }

    private void reset() {
        calls++;
        core.reset();
        model.reset();
    }

    private void step() {
        int active = model.about(1);
        int outcome = model.step();
        due("step", core.step(), outcome);
        if (outcome == 1) entered++;
        if (outcome == 2) slept++;
        if (outcome == 3) locked++;
        if (model.about(1) < active) returned++;
    }

    private void run(int n) {
        due("run", core.run(n), model.run(n));
    }

    private void compare(int which) {
        StringBuilder got = new StringBuilder();
        StringBuilder want = new StringBuilder();
        for (int k = 0; k < 16; k++) {
            got.append(core.register(k)).append(' ');
            want.append(model.register(k)).append(' ');
        }
        for (int what = 0; what < 7; what++) {
            got.append(core.about(what)).append(' ');
            want.append(model.about(what)).append(' ');
        }
        for (int e = 0; e < 16; e++) {
            got.append(core.exception(e)).append(' ');
            want.append(model.exception(e)).append(' ');
        }
        got.append(core.status());
        want.append(model.status());
        boolean alike = true;
        for (int a = 0; a < model.size; a++) alike &= core.peek(a) == model.peek(a);
        check.due("state behind " + which, got.toString(), want.toString());
        check.due("memory behind " + which, alike, true);
    }
}
