import java.lang.reflect.InvocationTargetException;
import java.lang.reflect.Method;
import java.util.Map;
import java.util.TreeMap;

/** Runs the tests that bear a sentence of the document, and holds what a step leaves against all that is due. */
final class Boundaries {
    private static final Check CHECK = new Check();

    /** Every method of a class that bears a sentence; ends the program. */
    static void run(Class<?> tests) throws IllegalAccessException {
        Map<String, Method> named = new TreeMap<>();
        for (Method m : tests.getDeclaredMethods()) if (m.isAnnotationPresent(Sentence.class)) named.put(m.getName(), m);
        for (Method m : named.values()) run(m);
        System.out.println(named.size() + " boundary cases");
        CHECK.end();
    }

    private static void run(Method test) throws IllegalAccessException {
        int asked = CHECK.asked();
        int wrong = CHECK.wrong();
        try {
            test.invoke(null);
        } catch (InvocationTargetException e) {
            CHECK.due("thrown", e.getCause().toString(), "nothing");
        }
        CHECK.due("something was asked", CHECK.asked() > asked, true);
        if (CHECK.wrong() > wrong) {
            System.out.println("  in " + test.getName() + ": \"" + test.getAnnotation(Sentence.class).value() + "\"");
        }
    }

    static void due(String what, long got, long want) {
        CHECK.due(what, got, want);
    }

    static void due(String what, boolean got, boolean want) {
        CHECK.due(what, got, want);
    }

    static void due(String what, String got, String want) {
        CHECK.due(what, got, want);
    }

    /** A step's answer, and all that is otherwise behind it. */
    static void step(Setup setup, int answer, String changes) {
        step(setup, answer, setup.sight().but(changes));
    }

    private static void step(Setup setup, int answer, Sight want) {
        ThumbCore x = setup.make();
        CHECK.due("step", x.step(), answer);
        CHECK.due("behind the step", want.otherwise(Sight.of(x, setup.size)), "");
    }

    /** An instruction that is made: PC is 2 more, if nothing else is said. */
    static void made(Setup setup, String changes) {
        Sight before = setup.sight();
        step(setup, 0, before.but("PC=" + (before.get("PC") + 2)).but(changes));
    }

    /** A fault: 3 is entered from the instruction's own address, and nothing else is done. */
    static void fault(Setup setup) {
        Sight before = setup.sight();
        step(setup, 0, before.entered(3, before.get("PC"), -1));
    }

    /** One that was pending is entered from PC. */
    static void enters(Setup setup, int e, int present, String more) {
        Sight before = setup.sight();
        step(setup, 1, before.entered(e, before.get("PC"), present).but(more));
    }

    /** A CALL: 11 is entered from the address behind. */
    static void calls(Setup setup, int present) {
        Sight before = setup.sight();
        step(setup, 0, before.entered(11, before.get("PC") + 2, present));
    }

    /** A lockup, and nothing else. */
    static void locks(Setup setup) {
        step(setup, 3, "lockup=1");
    }

    private Boundaries() {
    }
}
