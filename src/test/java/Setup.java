import java.util.ArrayList;
import java.util.List;
import java.util.function.Consumer;

/**
 * The calls that bring a core to where a test begins. They can be made again on another core, so that one core is
 * looked at as it is before and another one as it is behind: looking at all of one twice takes more than 512 calls.
 */
final class Setup {
    static final int SIZE = 288;
    static final int SP = 280;
    static final int PC = 64;
    private static final int[] EXCEPTIONS = {2, 3, 11, 14, 15};

    final int size;
    private final List<Consumer<ThumbCore>> calls = new ArrayList<>();

    private Setup(int size) {
        this.size = size;
    }

    /** 288 bytes, SP 280 with room for five exceptions below it, and these halves from PC 64 on. */
    static Setup of(int... halves) {
        return sized(SIZE, SP, halves);
    }

    /** Some bytes, with a word for each exception and a handler of two halves, all below 116. */
    static Setup sized(int size, int sp, int... halves) {
        Setup s = new Setup(size);
        s.word(0, sp).word(4, PC + 1);
        for (int e : EXCEPTIONS) s.word(4 * e, handler(e) + 1);
        s.code(PC, halves);
        return s.does(ThumbCore::reset);
    }

    /** Where the handler of an exception begins: 96, 100, 104, 108, 112. */
    static int handler(int e) {
        for (int i = 0; i < EXCEPTIONS.length; i++) if (EXCEPTIONS[i] == e) return 96 + 4 * i;
        throw new IllegalArgumentException("no exception " + e);
    }

    Setup does(Consumer<ThumbCore> call) {
        calls.add(call);
        return this;
    }

    Setup word(int address, int value) {
        return does(x -> x.poke(address, value, 4));
    }

    Setup code(int from, int... halves) {
        for (int i = 0; i < halves.length; i++) {
            int at = from + 2 * i;
            int h = halves[i];
            does(x -> x.poke(at, h, 2));
        }
        return this;
    }

    /** These halves where PC is by then. */
    Setup here(int... halves) {
        return does(x -> {
            for (int i = 0; i < halves.length; i++) x.poke(x.register(15) + 2 * i, halves[i], 2);
        });
    }

    Setup r(int k, int value) {
        return does(x -> x.set(k, value));
    }

    /** R0, R1, .. as given. */
    Setup all(int... values) {
        for (int k = 0; k < values.length; k++) r(k, values[k]);
        return this;
    }

    /** R0 .. R12 are 10 .. 22, and LR is 24. */
    Setup numbered() {
        return all(10, 11, 12, 13, 14, 15, 16, 17, 18, 19, 20, 21, 22).r(14, 24);
    }

    Setup step() {
        return does(ThumbCore::step);
    }

    Setup pend(int e) {
        return does(x -> x.pend(e));
    }

    Setup priority(int e, int priority) {
        return does(x -> x.priority(e, priority));
    }

    Setup tick(int reload, boolean on) {
        return does(x -> x.tick(reload, on));
    }

    /** These are entered one in another: 3 by a wrong instruction, 11 by a CALL, the others by being pending. */
    Setup in(int... exceptions) {
        for (int e : exceptions) {
            if (e == 3) here(Code.WRONG);
            else if (e == 11) here(Code.CALL);
            else pend(e);
            step();
        }
        return this;
    }

    /** MASK is on; PC and what stands there are as before. */
    Setup masked() {
        return does(x -> {
            int at = x.register(15);
            int low = x.peek(at);
            int high = x.peek(at + 1);
            x.poke(at, Code.MASK_ON, 2);
            x.step();
            x.poke(at, low, 1);
            x.poke(at + 1, high, 1);
            x.set(15, at);
        });
    }

    /** Flags by their letters, given by a return from 14 whose words are changed; only while nothing is active. */
    Setup flags(String letters) {
        int bits = bits(letters);
        return does(x -> {
            x.pend(14);
            x.step();
            x.poke(x.register(13) + 28, bits, 4);
            x.poke(handler(14), Code.BACK, 2);
            x.step();
        });
    }

    static int bits(String letters) {
        int bits = 0;
        for (int i = 0; i < letters.length(); i++) bits |= 1 << 31 - "NZCV".indexOf(letters.charAt(i));
        return bits;
    }

    ThumbCore make() {
        ThumbCore x = new ThumbCore(size);
        for (Consumer<ThumbCore> call : calls) call.accept(x);
        return x;
    }

    Sight sight() {
        return Sight.of(make(), size);
    }
}
