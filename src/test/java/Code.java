/** Halves of instructions, put together as the document takes them apart. */
final class Code {
    static final int NOTHING = 48896;
    static final int SLEEP = 48944;
    static final int MASK_OFF = 46690;
    static final int MASK_ON = 46706;
    static final int WRONG = 26 * 2048 + 14 * 256;
    static final int CALL = 26 * 2048 + 15 * 256;
    static final int BACK = go(14);

    static final int UP = 0;
    static final int DOWN = 1;
    static final int DOWN_SIGNED = 2;

    /** h / 2048 = 0, 1, 2. */
    static int move(int kind, int d, int n, int i) {
        return kind * 2048 + i * 64 + n * 8 + d;
    }

    /** h / 2048 = 3. */
    static int three(int kind, int d, int n, int m) {
        return 3 * 2048 + kind * 512 + m * 64 + n * 8 + d;
    }

    /** All kinds that have r and k: h / 2048 = 4 .. 7, 9, 18 .. 21, 24, 25. */
    static int wide(int kind, int r, int k) {
        return kind * 2048 + r * 256 + k;
    }

    /** h / 1024 = 16. */
    static int two(int kind, int d, int n) {
        return 16 * 1024 + kind * 64 + n * 8 + d;
    }

    /** h / 1024 = 17, with registers 0 .. 15. */
    static int high(int kind, int d, int m) {
        return 17 * 1024 + kind * 256 + d / 8 * 128 + m * 8 + d % 8;
    }

    static int go(int m) {
        return high(3, 0, m);
    }

    static int goWithLink(int m) {
        return high(3, 8, m);
    }

    /** h / 2048 = 10, 11. */
    static int atSum(int kind, int d, int n, int m) {
        return 10 * 2048 + kind * 512 + m * 64 + n * 8 + d;
    }

    /** h / 2048 = 12 .. 17. */
    static int atOffset(int kind, int d, int n, int i) {
        return kind * 2048 + i * 64 + n * 8 + d;
    }

    /** h / 2048 = 22, 23. */
    static int other(int kind, int k) {
        return 22 * 2048 + kind * 256 + k;
    }

    static int push(int list) {
        return other(4, list);
    }

    static int pushWithLink(int list) {
        return other(5, list);
    }

    static int pop(int list) {
        return other(12, list);
    }

    static int popAndGo(int list) {
        return other(13, list);
    }

    /** h / 2048 = 26, 27. */
    static int branch(int condition, int halves) {
        return 26 * 2048 + condition * 256 + (halves & 255);
    }

    /** h / 2048 = 28. */
    static int jump(int halves) {
        return 28 * 2048 + (halves & 2047);
    }

    private Code() {
    }
}
