import java.io.IOException;
import java.lang.reflect.Method;
import java.nio.file.Files;
import java.nio.file.Path;

/** No test: tells which words of the document's terms and promises no test bears, and which it bears that are not there. */
public final class Uncovered {
    private static final Class<?>[] TESTS = {
        TermsBoundaryTest.class, InstructionBoundaryTest.class, ExceptionBoundaryTest.class, PromiseBoundaryTest.class};

    public static void main(String[] args) throws IOException {
        String document = Files.readString(Path.of(args.length > 0 ? args[0] : "../shared/DOC.md")).replaceAll("\\s+", " ");
        boolean[] borne = new boolean[document.length()];
        for (Class<?> tests : TESTS) {
            for (Method m : tests.getDeclaredMethods()) {
                Sentence s = m.getAnnotation(Sentence.class);
                if (s != null && !mark(document, s.value(), borne)) System.out.println("not in the document: " + s.value());
            }
        }
        for (int from = document.indexOf("## Terms"); from < document.indexOf("## Not promised"); from++) {
            int to = from;
            while (to < document.indexOf("## Not promised") && !borne[to]) to++;
            if (to - from > 2) System.out.println("borne by no test: " + document.substring(from, to));
            from = Math.max(from, to);
        }
    }

    /** Marks a sentence wherever it stands. */
    private static boolean mark(String document, String sentence, boolean[] borne) {
        int at = document.indexOf(sentence);
        boolean found = at >= 0;
        for (; at >= 0; at = document.indexOf(sentence, at + 1)) {
            for (int i = 0; i < sentence.length(); i++) borne[at + i] = true;
        }
        return found;
    }

    private Uncovered() {
    }
}
