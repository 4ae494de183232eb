import java.io.IOException;
import java.lang.reflect.Method;
import java.lang.reflect.Modifier;
import java.nio.file.Files;
import java.nio.file.Path;
import java.util.List;
import java.util.Set;
import java.util.TreeSet;
import java.util.regex.Matcher;
import java.util.regex.Pattern;
import java.util.stream.Stream;

/** README.md is what a reader tries first: its examples are made as they stand there, and must answer what it says. */
public final class ReadmeTest {
    private static final Pattern NEW = Pattern.compile("ThumbCore core = new ThumbCore\\((\\d+)\\);.*");
    private static final Pattern CALL = Pattern.compile("core\\.(\\w+)\\((.*?)\\);(?:\\s*// (.*))?");
    private static final Pattern ANSWER = Pattern.compile("(true|false|NONE|-?\\d\\w*)(:.*)?");

    private final Check check = new Check();
    private final Set<String> shown = new TreeSet<>();
    private ThumbCore core;

    public static void main(String[] args) throws IOException, ReflectiveOperationException {
        new ReadmeTest().examine(Files.readAllLines(Path.of("README.md")));
    }

    private void examine(List<String> lines) throws IOException, ReflectiveOperationException {
        boolean example = false;
        for (String line : lines) {
            if (line.startsWith("```")) example = line.equals("```java");
            else if (example) make(line);
        }
        String text = String.join("\n", lines);
        for (Method m : ThumbCore.class.getDeclaredMethods()) {
            if (Modifier.isPublic(m.getModifiers())) tells(text, m);
        }
        try (Stream<Path> tests = Files.list(Path.of("src/test/java"))) {
            tests.map(p -> p.getFileName().toString()).filter(n -> n.endsWith("Test.java")).sorted()
                .map(n -> n.replace(".java", "")).forEach(n -> holds(text, "| `" + n + "` |"));
        }
        check.end();
    }

    private void tells(String text, Method m) {
        holds(text, "| `" + m.getName() + "(");
        check.due("an example shows " + m.getName(), shown.contains(m.getName()), true);
    }

    private void holds(String text, String words) {
        check.due("README.md has " + words, text.contains(words), true);
    }

    private void make(String line) throws ReflectiveOperationException {
        Matcher made = NEW.matcher(line);
        if (made.matches()) {
            core = new ThumbCore(Integer.parseInt(made.group(1)));
            return;
        }
        Matcher call = CALL.matcher(line);
        check.due("can be made: " + line, call.matches() && core != null, true);
        if (!call.matches() || core == null) return;
        Object got = invoke(call.group(1), call.group(2));
        shown.add(call.group(1));
        Matcher answer = ANSWER.matcher(call.group(3) == null ? "" : call.group(3));
        if (answer.matches()) check.due(line, String.valueOf(got), String.valueOf(value(answer.group(1))));
        else check.due("an untold answer is no refusal: " + line, !Boolean.FALSE.equals(got), true);
    }

    private Object invoke(String name, String arguments) throws ReflectiveOperationException {
        String[] parts = arguments.isEmpty() ? new String[0] : arguments.split(", ");
        Object[] values = new Object[parts.length];
        Class<?>[] types = new Class<?>[parts.length];
        for (int i = 0; i < parts.length; i++) {
            values[i] = value(parts[i]);
            types[i] = values[i] instanceof Boolean ? boolean.class : int.class;
        }
        return ThumbCore.class.getMethod(name, types).invoke(core, values);
    }

    private static Object value(String text) {
        if (text.equals("NONE")) return ThumbCore.NONE;
        if (text.equals("true") || text.equals("false")) return Boolean.valueOf(text);
        return Integer.decode(text);
    }
}
