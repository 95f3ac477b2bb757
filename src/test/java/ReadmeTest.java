import java.io.IOException;
import java.io.UncheckedIOException;
import java.lang.reflect.InvocationTargetException;
import java.lang.reflect.Method;
import java.nio.file.Files;
import java.nio.file.Path;
import java.util.ArrayList;
import java.util.HashMap;
import java.util.List;
import java.util.Map;
import java.util.regex.Matcher;
import java.util.regex.Pattern;

/** README.md: the examples answer what it says, and its list of calls is the document's. */
public final class ReadmeTest {
    private static final Path FILE = Path.of("README.md");
    private static final int PROMISES = 27;
    private static final Pattern MADE = Pattern.compile("LateDoves cote = new LateDoves\\(\\);");
    private static final Pattern WRITTEN = Pattern.compile("write\\(cote, \"(.*)\"\\);");
    private static final Pattern CALLED = Pattern.compile(
        "(?:int (\\w+) = )?cote\\.(\\w+)\\((.*?)\\); +// ((?:throws )?[-\\w.]+)(?:: .+)?");
    private static final Pattern SIGNATURE = Pattern.compile("`([^`]*\\))[^`]*`");
    private static final Pattern EXCEPTION = Pattern.compile("\\w+Exception");

    private static LateDoves cote = new LateDoves();
    private static Map<String, Integer> names = new HashMap<>();

    public static void main(String[] args) {
        examples();
        if (Doc.isThere()) {
            calls();
        }
        Check.end();
    }

    private static List<String> lines() {
        try {
            return Files.readAllLines(FILE);
        } catch (IOException e) {
            throw new UncheckedIOException(e);
        }
    }

    // ---- the examples

    private static void examples() {
        boolean inside = false;
        int found = 0;
        for (String line : lines()) {
            if (line.startsWith("```")) {
                inside = line.equals("```java");
                found += inside ? 1 : 0;
            } else if (inside) {
                example(line);
            }
        }
        Check.due("examples", found, 3);
    }

    private static void example(String line) {
        Matcher called = CALLED.matcher(line);
        Matcher written = WRITTEN.matcher(line);
        if (MADE.matcher(line).matches()) {
            cote = new LateDoves();
            names = new HashMap<>();
        } else if (written.matches()) {
            for (char character : written.group(1).toCharArray()) {
                cote.append(character);
            }
        } else if (called.matches()) {
            String answer = answer(called.group(2), called.group(3));
            Check.dueText(line, answer, number(called.group(4)));
            if (called.group(1) != null) {
                names.put(called.group(1), Integer.valueOf(answer));
            }
        } else {
            Check.dueText("a line of an example", line, "a new object, a text, or a call with its answer");
        }
    }

    private static String answer(String name, String arguments) {
        try {
            return String.valueOf(method(name).invoke(cote, values(arguments)));
        } catch (InvocationTargetException e) {
            return "throws " + e.getCause().getClass().getSimpleName();
        } catch (IllegalAccessException | IllegalArgumentException e) {
            return "no such call";
        }
    }

    private static Method method(String name) {
        for (Method method : LateDoves.class.getMethods()) {
            if (method.getName().equals(name)) {
                return method;
            }
        }
        throw new IllegalArgumentException(name);
    }

    private static Object[] values(String arguments) {
        List<Object> values = new ArrayList<>();
        for (String argument : arguments.isEmpty() ? new String[0] : arguments.split(", ")) {
            values.add(names.containsKey(argument) ? names.get(argument) : Integer.valueOf(argument));
        }
        return values.toArray();
    }

    private static String number(String due) {
        return due.equals("NONE") ? "-1" : due.equals("ROOF") ? "24" : due;
    }

    // ---- the list of calls

    /** Each entry has the document's signature, its "undoable", and its exceptions in the document's order. */
    private static void calls() {
        List<String> entries = entries();
        Check.due("calls in the list", entries.size(), PROMISES);
        for (int i = 0; i < Math.min(entries.size(), PROMISES); i++) {
            String promise = Doc.below("Promise " + (i + 1));
            String entry = entries.get(i);
            Check.dueText("call " + (i + 1), signature(entry), signature(promise));
            Check.due(signature(entry) + " is undoable", entry.contains("`, undoable: ") ? 1 : 0,
                promise.contains("Undoable") ? 1 : 0);
            String rest = promise.substring(promise.indexOf("`:") + 2);
            Check.dueText(signature(entry) + " throws", exceptions(entry), exceptions(rest));
        }
    }

    private static List<String> entries() {
        List<String> entries = new ArrayList<>();
        boolean inside = false;
        boolean open = false;
        for (String line : lines()) {
            if (line.startsWith("## ")) {
                inside = line.equals("## The calls");
            } else if (inside && line.startsWith("- ")) {
                entries.add(line);
                open = true;
            } else if (inside && open && line.startsWith("  ")) {
                entries.set(entries.size() - 1, entries.get(entries.size() - 1) + line.substring(1));
            } else {
                open = false;
            }
        }
        return entries;
    }

    private static String signature(String text) {
        Matcher matcher = SIGNATURE.matcher(text);
        return matcher.find() ? matcher.group(1) : "none";
    }

    private static String exceptions(String text) {
        StringBuilder found = new StringBuilder();
        Matcher matcher = EXCEPTION.matcher(text);
        while (matcher.find()) {
            found.append(matcher.group()).append(' ');
        }
        return found.toString();
    }
}
