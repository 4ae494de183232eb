import java.util.ArrayList;
import java.util.List;

/**
 * The document once more, written as literally as it goes and unlike the program: by division instead of masks,
 * with bytes, wide numbers, and faults that put a copy of the state back. AgreementTest holds the program against it.
 */
final class Model {
    private static final class Fault extends RuntimeException {
        private static final long serialVersionUID = 1;

        Fault() {
            super(null, null, false, false);
        }
    }

    private static final int[] ALL = {2, 3, 11, 14, 15};

    int size;
    int[] bytes;
    int[] reg = new int[16];
    boolean n, z, c, v, mask, asleep, lockup, on;
    int number, reload;
    boolean[] pending = new boolean[16];
    List<Integer> active = new ArrayList<>();
    int[] prio = new int[16];

    Model(int wanted) {
        size = wanted - Math.floorMod(wanted, 4);
        if (size < 128) size = 128;
        if (size > 2048) size = 2048;
        bytes = new int[size];
        prio[2] = -2;
        prio[3] = -1;
        reset();
    }

    boolean poke(int address, int value, int count) {
        if (count != 1 && count != 2 && count != 4) return false;
        long a = Integer.toUnsignedLong(address);
        if (a + count > size) return false;
        for (int i = 0; i < count; i++) bytes[(int) a + i] = (int) ((Integer.toUnsignedLong(value) >> (8 * i)) % 256);
        return true;
    }

    int peek(int address) {
        return Integer.toUnsignedLong(address) < size ? bytes[address] : -1;
    }

    void reset() {
        reg = new int[16];
        write(13, read(0, 4));
        reg[14] = -1;
        write(15, read(4, 4));
        n = z = c = v = mask = on = asleep = lockup = false;
        number = reload = 0;
        pending = new boolean[16];
        active.clear();
    }

    int step() {
        if (lockup) return 3;
        if (on) {
            if (number == 0) {
                number = reload;
            } else {
                number--;
                if (number == 0) pending[15] = true;
            }
        }
        if (asleep) {
            boolean kept = mask;
            mask = false;
            int wakes = first();
            mask = kept;
            if (wakes == 0) return 2;
        }
        asleep = false;
        int e = first();
        if (e != 0) {
            enter(e, reg[15]);
            return lockup ? 3 : 1;
        }
        make();
        return lockup ? 3 : 0;
    }

    int run(int count) {
        if (count < 0 || count > 100) return -1;
        int good = 0;
        while (good < count && step() < 2) good++;
        return good;
    }

    int register(int k) {
        return k < 0 || k > 15 ? 0 : reg[k];
    }

    boolean set(int k, int value) {
        if (k < 0 || k > 15) return false;
        write(k, value);
        return true;
    }

    int status() {
        long s = 0;
        if (n) s += 1L << 31;
        if (z) s += 1L << 30;
        if (c) s += 1L << 29;
        if (v) s += 1L << 28;
        return (int) (s + (1L << 24) + current());
    }

    int about(int what) {
        if (what == 0) return current();
        if (what == 1) return active.size();
        if (what == 2) return mask ? 1 : 0;
        if (what == 3) return asleep ? 1 : 0;
        if (what == 4) return lockup ? 1 : 0;
        if (what == 5) return number;
        if (what == 6) return present();
        return -1;
    }

    boolean pend(int e) {
        if (e != 2 && e != 14 && e != 15) return false;
        pending[e] = true;
        return true;
    }

    int exception(int k) {
        if (k < 0 || k > 15) return 0;
        return (pending[k] ? 1 : 0) + (active.contains(k) ? 2 : 0);
    }

    boolean priority(int e, int p) {
        if (e != 11 && e != 14 && e != 15 || p < 0 || p > 3) return false;
        prio[e] = p;
        return true;
    }

    boolean tick(int r, boolean isOn) {
        if (r < 0 || r > 1000) return false;
        reload = r;
        number = 0;
        on = isOn;
        return true;
    }

    private int current() {
        return active.isEmpty() ? 0 : active.get(active.size() - 1);
    }

    private int present() {
        int p = 4;
        for (int e : active) if (prio[e] < p) p = prio[e];
        return mask && p > 0 ? 0 : p;
    }

    private int first() {
        for (int p = -2; p < present(); p++) {
            for (int e : ALL) if (pending[e] && prio[e] == p) return e;
        }
        return 0;
    }

    private boolean there(int address, int count) {
        long a = Integer.toUnsignedLong(address);
        return a % count == 0 && a + count <= size;
    }

    private int read(int address, int count) {
        if (!there(address, count)) throw new Fault();
        long x = 0;
        for (int i = count - 1; i >= 0; i--) x = x * 256 + bytes[address + i];
        return (int) x;
    }

    private void put(int address, int value, int count) {
        if (!there(address, count)) throw new Fault();
        poke(address, value, count);
    }

    private void write(int k, int value) {
        long u = Integer.toUnsignedLong(value);
        if (k == 13) u = u / 4 * 4;
        if (k == 15) u = u / 2 * 2;
        reg[k] = (int) u;
    }

    private void enter(int e, int a) {
        int by = reg[13] % 8 != 0 ? 36 : 32;
        int base = reg[13] - by;
        int vector = read(4 * e, 4);
        boolean fine = vector % 2 != 0;
        for (int w = 0; w < 8; w++) fine = fine && there(base + 4 * w, 4);
        if (!fine) {
            lockup = true;
            return;
        }
        int told = status() + (by == 36 ? 512 : 0);
        int[] laid = {reg[0], reg[1], reg[2], reg[3], reg[12], reg[14], a, told};
        for (int w = 0; w < 8; w++) put(base + 4 * w, laid[w], 4);
        reg[13] = base;
        reg[14] = active.isEmpty() ? -7 : -15;
        reg[15] = vector - 1;
        pending[e] = false;
        active.add(e);
    }

    private void comeBack(int to) {
        int sp = reg[13];
        int[] laid = new int[8];
        for (int w = 0; w < 8; w++) laid[w] = read(sp + 4 * w, 4);
        int told = Math.floorMod(laid[7], 64);
        if (to == -7 && (told != 0 || active.size() != 1)) throw new Fault();
        if (to == -15 && (active.size() < 2 || !active.contains(told) || told == current())) throw new Fault();
        active.remove(active.size() - 1);
        if (to == -15) {
            active.remove(Integer.valueOf(told));
            active.add(told);
        }
        System.arraycopy(laid, 0, reg, 0, 4);
        reg[12] = laid[4];
        reg[14] = laid[5];
        write(15, laid[6]);
        String bits = String.format("%32s", Integer.toBinaryString(laid[7])).replace(' ', '0');
        n = bits.charAt(0) == '1';
        z = bits.charAt(1) == '1';
        c = bits.charAt(2) == '1';
        v = bits.charAt(3) == '1';
        reg[13] = sp + 32 + (bits.charAt(31 - 9) == '1' ? 4 : 0);
    }

    /** Whether it was a return. */
    private boolean goTo(int to) {
        if (!active.isEmpty() && (to == -7 || to == -15)) {
            comeBack(to);
            return true;
        }
        if (to % 2 == 0) throw new Fault();
        reg[15] = to - 1;
        return false;
    }

    private void make() {
        int at = reg[15];
        int[] keptReg = reg.clone();
        int[] keptBytes = bytes.clone();
        boolean keptN = n, keptZ = z, keptC = c, keptV = v, keptMask = mask;
        List<Integer> keptActive = new ArrayList<>(active);
        try {
            int h = read(at, 2);
            reg[15] = at + 2;
            perform(h, at);
        } catch (Fault f) {
            reg = keptReg;
            bytes = keptBytes;
            n = keptN;
            z = keptZ;
            c = keptC;
            v = keptV;
            mask = keptMask;
            active = keptActive;
            if (present() < 0) lockup = true;
            else enter(3, at);
        }
        if (lockup) reg[15] = at;
    }

    private int nz(long x) {
        n = (int) x < 0;
        z = (int) x == 0;
        return (int) x;
    }

    private int add(int x, int y, int carry) {
        long wide = Integer.toUnsignedLong(x) + Integer.toUnsignedLong(y) + carry;
        c = wide >= 1L << 32;
        v = (long) x + (long) y + carry != (int) wide;
        return nz(wide);
    }

    /** Bit by bit: kind 0 up, 1 down with zeros, 2 down with the sign. */
    private int move(int kind, int x, int by) {
        int y = x;
        for (int i = 0; i < by; i++) {
            c = (kind == 0 ? y >>> 31 : y % 2) != 0;
            if (kind == 0) y = y * 2;
            else if (kind == 1) y = (int) (Integer.toUnsignedLong(y) / 2);
            else y = Math.floorDiv(y, 2);
        }
        return nz(y);
    }

    private int turn(int x, int by) {
        int y = x;
        for (int i = 0; i < by; i++) y = Math.floorMod(y, 2) * Integer.MIN_VALUE + (int) (Integer.toUnsignedLong(y) / 2);
        if (by != 0) c = y < 0;
        return nz(y);
    }

    private static int signed(int x, int bits) {
        int u = Math.floorMod(x, 1 << bits);
        return u >= 1 << (bits - 1) ? u - (1 << bits) : u;
    }

    private void perform(int h, int at) {
        int d = h % 8, nn = h / 8 % 8, m = h / 64 % 8, i = h / 64 % 32, r = h / 256 % 8, k = h % 256;
        int here = at + 4;
        int even = here - Math.floorMod(here, 4);
        int top = h / 2048;
        if (top == 0) reg[d] = move(0, reg[nn], i);
        else if (top == 1 || top == 2) reg[d] = move(top, reg[nn], i == 0 ? 32 : i);
        else if (top == 3) {
            int y = h / 512 % 4 < 2 ? reg[m] : m;
            reg[d] = h / 512 % 2 == 0 ? add(reg[nn], y, 0) : add(reg[nn], -1 - y, 1);
        } else if (top == 4) reg[r] = nz(k);
        else if (top == 5) add(reg[r], -1 - k, 1);
        else if (top == 6) reg[r] = add(reg[r], k, 0);
        else if (top == 7) reg[r] = add(reg[r], -1 - k, 1);
        else if (h / 1024 == 16) low(h / 64 % 16, d, nn);
        else if (h / 1024 == 17) high(h, at);
        else if (top == 9) reg[r] = read(even + 4 * k, 4);
        else if (top == 10 || top == 11) byRegisters(h / 512 % 8, d, reg[nn] + reg[m]);
        else if (top == 12) put(reg[nn] + 4 * i, reg[d], 4);
        else if (top == 13) reg[d] = read(reg[nn] + 4 * i, 4);
        else if (top == 14) put(reg[nn] + i, reg[d], 1);
        else if (top == 15) reg[d] = read(reg[nn] + i, 1);
        else if (top == 16) put(reg[nn] + 2 * i, reg[d], 2);
        else if (top == 17) reg[d] = read(reg[nn] + 2 * i, 2);
        else if (top == 18) put(reg[13] + 4 * k, reg[r], 4);
        else if (top == 19) reg[r] = read(reg[13] + 4 * k, 4);
        else if (top == 20) reg[r] = even + 4 * k;
        else if (top == 21) reg[r] = reg[13] + 4 * k;
        else if (top == 22 || top == 23) others(h);
        else if (top == 24) storeMany(r, k);
        else if (top == 25) loadMany(r, k);
        else if (top == 26 || top == 27) onCondition(h / 256 % 16, here + 2 * signed(k, 8), at + 2);
        else if (top == 28) reg[15] = here + 2 * signed(h, 11);
        else if (top == 30) far(h, at);
        else throw new Fault();
    }

    private void low(int op, int d, int nn) {
        int x = reg[d], y = reg[nn], by = Math.floorMod(y, 256);
        switch (op) {
            case 0 -> reg[d] = nz(x & y);
            case 1 -> reg[d] = nz(x ^ y);
            case 2, 3, 4 -> reg[d] = move(op - 2, x, by);
            case 5 -> reg[d] = add(x, y, c ? 1 : 0);
            case 6 -> reg[d] = add(x, -1 - y, c ? 1 : 0);
            case 7 -> reg[d] = turn(x, by);
            case 8 -> nz(x & y);
            case 9 -> reg[d] = add(-1 - y, 0, 1);
            case 10 -> add(x, -1 - y, 1);
            case 11 -> add(x, y, 0);
            case 12 -> reg[d] = nz(x | y);
            case 13 -> reg[d] = nz((long) x * y);
            case 14 -> reg[d] = nz(x & -1 - y);
            default -> reg[d] = nz(-1 - y);
        }
    }

    private void high(int h, int at) {
        int dd = h % 8 + 8 * (h / 128 % 2), mm = h / 8 % 16;
        int x = dd == 15 ? at + 4 : reg[dd], y = mm == 15 ? at + 4 : reg[mm];
        int kind = h / 256 % 4;
        if (kind == 0) write(dd, x + y);
        else if (kind == 2) write(dd, y);
        else if (kind == 1) {
            if (dd < 8 && mm < 8 || dd == 15 || mm == 15) throw new Fault();
            add(x, -1 - y, 1);
        } else {
            if (h % 8 != 0 || mm == 15) throw new Fault();
            boolean wasReturn = goTo(y);
            if (h / 128 % 2 == 1 && !wasReturn) reg[14] = at + 3;
        }
    }

    private void byRegisters(int kind, int d, int a) {
        switch (kind) {
            case 0 -> put(a, reg[d], 4);
            case 1 -> put(a, reg[d], 2);
            case 2 -> put(a, reg[d], 1);
            case 3 -> reg[d] = signed(read(a, 1), 8);
            case 4 -> reg[d] = read(a, 4);
            case 5 -> reg[d] = read(a, 2);
            case 6 -> reg[d] = read(a, 1);
            default -> reg[d] = signed(read(a, 2), 16);
        }
    }

    private void others(int h) {
        int d = h % 8, k = h % 256, x = reg[h / 8 % 8], sub = h / 64 % 4;
        int b0 = Math.floorMod(x, 256), b1 = Math.floorMod(x >> 8, 256), b2 = Math.floorMod(x >> 16, 256), b3 = x >>> 24;
        int kind = h / 256 % 16;
        if (kind == 0) reg[13] += (h / 128 % 2 == 1 ? -4 : 4) * (h % 128);
        else if (kind == 2) reg[d] = new int[] {signed(x, 16), signed(x, 8), b0 + 256 * b1, b0}[sub];
        else if (kind == 4 || kind == 5) pushAll(k, kind == 5);
        else if (kind == 6 && h == 46690) mask = false;
        else if (kind == 6 && h == 46706) mask = true;
        else if (kind == 10 && sub == 0) reg[d] = ((b0 * 256 + b1) * 256 + b2) * 256 + b3;
        else if (kind == 10 && sub == 1) reg[d] = ((b2 * 256 + b3) * 256 + b0) * 256 + b1;
        else if (kind == 10 && sub == 3) reg[d] = signed(b0 * 256 + b1, 16);
        else if (kind == 12 || kind == 13) popAll(k, kind == 13);
        else if (kind == 15 && h == 48944) asleep = true;
        else if (kind != 15 || h % 16 != 0) throw new Fault();
    }

    private void pushAll(int k, boolean link) {
        if (k == 0 && !link) throw new Fault();
        int a = reg[13];
        if (link) {
            a -= 4;
            put(a, reg[14], 4);
        }
        for (int x = 7; x >= 0; x--) {
            if ((k >> x & 1) == 0) continue;
            a -= 4;
            put(a, reg[x], 4);
        }
        reg[13] = a;
    }

    private void popAll(int k, boolean goes) {
        if (k == 0 && !goes) throw new Fault();
        for (int x = 0; x < 8; x++) {
            if ((k >> x & 1) == 1) {
                reg[x] = read(reg[13], 4);
                reg[13] += 4;
            }
        }
        if (goes) {
            int to = read(reg[13], 4);
            reg[13] += 4;
            goTo(to);
        }
    }

    private void storeMany(int r, int k) {
        if (k == 0 || (k >> r & 1) == 1 && k % (1 << r) != 0) throw new Fault();
        int a = reg[r];
        for (int x = 0; x < 8; x++) {
            if ((k >> x & 1) == 1) {
                put(a, reg[x], 4);
                a += 4;
            }
        }
        reg[r] = a;
    }

    private void loadMany(int r, int k) {
        if (k == 0) throw new Fault();
        int a = reg[r];
        for (int x = 0; x < 8; x++) {
            if ((k >> x & 1) == 1) {
                reg[x] = read(a, 4);
                a += 4;
            }
        }
        if ((k >> r & 1) == 0) reg[r] = a;
    }

    private void onCondition(int cond, int target, int behind) {
        if (cond == 14) throw new Fault();
        if (cond == 15) {
            if (prio[11] >= present()) throw new Fault();
            enter(11, behind);
            return;
        }
        boolean[] met = {z, !z, c, !c, n, !n, v, !v, c && !z, !c || z, n == v, n != v, !z && n == v, z || n != v};
        if (met[cond]) reg[15] = target;
    }

    private void far(int h, int at) {
        int second = read(at + 2, 2);
        if (second < 49152 || second / 4096 % 2 != 1) throw new Fault();
        int s = h / 1024 % 2, j1 = second / 8192 % 2, j2 = second / 2048 % 2;
        int bits = s * (1 << 24) + (j1 == s ? 1 << 23 : 0) + (j2 == s ? 1 << 22 : 0) + h % 1024 * 4096 + second % 2048 * 2;
        reg[14] = at + 5;
        reg[15] = at + 4 + signed(bits, 25);
    }
}
