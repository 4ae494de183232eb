import java.util.LinkedHashMap;
import java.util.Map;

/** All that can be seen of a core: a name and a number for each register, flag, state and word of memory. */
final class Sight {
    private static final String[] ABOUT = {"current", "active", "MASK", "asleep", "lockup", "counter", "present"};
    private static final int[] EXCEPTIONS = {2, 3, 11, 14, 15};
    private static final String FLAGS = "NZCV";
    /** Of a larger memory only the first bytes are looked at, and the last: an object is good for 512 calls. */
    private static final int MOST_BYTES = 288;
    private static final int LAST_BYTES = 32;

    private final Map<String, Integer> seen = new LinkedHashMap<>();

    static Sight of(ThumbCore x, int size) {
        Sight s = new Sight();
        for (int k = 0; k < 16; k++) s.seen.put(name(k), x.register(k));
        int status = x.status();
        for (int f = 0; f < 4; f++) s.seen.put(FLAGS.substring(f, f + 1), status >>> 31 - f & 1);
        s.seen.put("rest of STATUS", status & 0x0FFFFFFF);
        for (int what = 0; what < ABOUT.length; what++) s.seen.put(ABOUT[what], x.about(what));
        for (int e : EXCEPTIONS) s.seen.put("e" + e, x.exception(e));
        for (int a = 0; a < Math.min(size, MOST_BYTES); a += 4) s.seen.put("@" + a, Bench.word(x, a));
        for (int a = Math.max(MOST_BYTES, size - LAST_BYTES); a < size; a += 4) s.seen.put("@" + a, Bench.word(x, a));
        return s;
    }

    private static String name(int k) {
        return k == 13 ? "SP" : k == 14 ? "LR" : k == 15 ? "PC" : "R" + k;
    }

    int get(String name) {
        return seen.get(name);
    }

    /** The same, but for these: "R0=5 PC=66 flags=NC"; "flags=" is none of them, and a number may be 0x... */
    Sight but(String changes) {
        Sight s = new Sight();
        s.seen.putAll(seen);
        for (String change : changes.split(" ")) {
            if (!change.isEmpty()) s.change(change.substring(0, change.indexOf('=')), change.substring(change.indexOf('=') + 1));
        }
        s.seen.put("rest of STATUS", 1 << 24 | s.get("current"));
        return s;
    }

    private void change(String name, String value) {
        if (name.equals("flags")) {
            for (int f = 0; f < 4; f++) seen.put(FLAGS.substring(f, f + 1), value.indexOf(FLAGS.charAt(f)) < 0 ? 0 : 1);
        } else if (seen.containsKey(name)) {
            seen.put(name, Long.decode(value).intValue());
        } else {
            throw new IllegalArgumentException("nothing is called " + name);
        }
    }

    /** As it is behind the entering of e from an address, if it may be. */
    Sight entered(int e, int from, int present) {
        int more = get("SP") % 8 == 0 ? 0 : 4;
        int base = get("SP") - 32 - more;
        int status = 1 << 24 | get("current") | (more == 0 ? 0 : 512);
        for (int f = 0; f < 4; f++) status |= get(FLAGS.substring(f, f + 1)) << 31 - f;
        int[] laid = {get("R0"), get("R1"), get("R2"), get("R3"), get("R12"), get("LR"), from, status};
        StringBuilder changes = new StringBuilder();
        for (int w = 0; w < 8; w++) changes.append("@").append(base + 4 * w).append("=").append(laid[w]).append(" ");
        changes.append("SP=").append(base);
        changes.append(" LR=").append(get("active") == 0 ? -7 : -15);
        changes.append(" PC=").append(get("@" + 4 * e) - 1);
        changes.append(" e").append(e).append("=2 current=").append(e);
        changes.append(" active=").append(get("active") + 1);
        changes.append(" present=").append(present);
        return but(changes.toString());
    }

    /** What another one shows otherwise: empty if nothing. */
    String otherwise(Sight got) {
        StringBuilder text = new StringBuilder();
        for (Map.Entry<String, Integer> due : seen.entrySet()) {
            int value = got.get(due.getKey());
            if (value != due.getValue()) {
                text.append(due.getKey()).append(" is ").append(value).append(", due is ").append(due.getValue()).append("; ");
            }
        }
        return text.toString();
    }
}
