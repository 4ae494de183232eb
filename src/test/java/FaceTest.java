import java.lang.reflect.Constructor;
import java.lang.reflect.Field;
import java.lang.reflect.Method;
import java.lang.reflect.Modifier;
import java.util.Set;
import java.util.TreeSet;

/** The class has the document's face, and nothing else of it can be seen. */
public final class FaceTest {
    private static final Set<String> FACE = Set.of(
        "public static final int ThumbCore.NONE",
        "public ThumbCore(int)",
        "public boolean ThumbCore.poke(int,int,int)",
        "public int ThumbCore.peek(int)",
        "public void ThumbCore.reset()",
        "public int ThumbCore.step()",
        "public int ThumbCore.run(int)",
        "public int ThumbCore.register(int)",
        "public boolean ThumbCore.set(int,int)",
        "public int ThumbCore.status()",
        "public int ThumbCore.about(int)",
        "public boolean ThumbCore.pend(int)",
        "public int ThumbCore.exception(int)",
        "public boolean ThumbCore.priority(int,int)",
        "public boolean ThumbCore.tick(int,boolean)");

    public static void main(String[] args) {
        Check check = new Check();
        check.due("NONE", ThumbCore.NONE, -1);
        check.due("class", Modifier.toString(ThumbCore.class.getModifiers()), "public final");
        check.due("face", new TreeSet<>(seen()).toString(), new TreeSet<>(FACE).toString());
        check.due("names used twice", namesUsedTwice(), "[]");
        check.due("state that is shared", sharedState(), "[]");
        check.end();
    }

    private static Set<String> seen() {
        Set<String> seen = new TreeSet<>();
        for (Field f : ThumbCore.class.getDeclaredFields()) {
            if (!Modifier.isPrivate(f.getModifiers())) seen.add(f.toString());
        }
        for (Method m : ThumbCore.class.getDeclaredMethods()) {
            if (!Modifier.isPrivate(m.getModifiers())) seen.add(m.toString());
        }
        for (Constructor<?> c : ThumbCore.class.getDeclaredConstructors()) {
            if (!Modifier.isPrivate(c.getModifiers())) seen.add(c.toString());
        }
        return seen;
    }

    private static String namesUsedTwice() {
        Set<String> shown = new TreeSet<>();
        Set<String> twice = new TreeSet<>();
        for (Method m : ThumbCore.class.getDeclaredMethods()) {
            if (Modifier.isPublic(m.getModifiers())) shown.add(m.getName());
        }
        for (Class<?> c : ThumbCore.class.getDeclaredClasses()) {
            for (Method m : c.getDeclaredMethods()) if (shown.contains(m.getName())) twice.add(m.getName());
        }
        for (Method m : ThumbCore.class.getDeclaredMethods()) {
            if (Modifier.isPrivate(m.getModifiers()) && shown.contains(m.getName())) twice.add(m.getName());
        }
        return twice.toString();
    }

    private static String sharedState() {
        Set<String> shared = new TreeSet<>();
        for (Field f : ThumbCore.class.getDeclaredFields()) {
            if (Modifier.isStatic(f.getModifiers()) && !Modifier.isFinal(f.getModifiers())) shared.add(f.getName());
        }
        return shared.toString();
    }
}
