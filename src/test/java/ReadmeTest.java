import java.io.IOException;
import java.lang.reflect.InvocationTargetException;
import java.lang.reflect.Method;
import java.lang.reflect.Modifier;
import java.nio.charset.StandardCharsets;
import java.nio.file.Files;
import java.nio.file.Path;
import java.util.ArrayList;
import java.util.Arrays;
import java.util.List;
import java.util.Map;
import java.util.Set;
import java.util.TreeMap;
import java.util.TreeSet;
import java.util.regex.Matcher;
import java.util.regex.Pattern;
import java.util.stream.Collectors;

/** README.md as its reader takes it: each call shown answers what is told there, and no method is left out. */
final class ReadmeTest {
    private static final String NEW_OBJECT = "ShellWatch watch = new ShellWatch();";
    // A call, its answer, and behind a colon what it means.
    private static final Pattern CALL = Pattern.compile("watch\\.(\\w+)\\((.*?)\\); +// (throws \\w+|[^ :]+): (.+)");
    // A row of the table: the call, what it answers, what it throws.
    private static final Pattern ROW = Pattern.compile("\\| `(\\w+)\\((.*?)\\)` \\| .+ \\| ([\\w, ]*?) ?\\|");

    private static final Map<String, Method> FACE = new TreeMap<>();
    private static final Set<String> SHOWN = new TreeSet<>();
    private static ShellWatch watch = new ShellWatch();

    public static void main(String[] args) throws IOException, IllegalAccessException {
        for (Method method : ShellWatch.class.getDeclaredMethods()) {
            if (Modifier.isPublic(method.getModifiers())) {
                FACE.put(method.getName(), method);
            }
        }
        List<String> lines = Files.readAllLines(Path.of(System.getProperty("shellwatch.readme", "README.md")));
        for (String line : linesOf(lines, "java")) {
            show(line);
        }
        Check.is("methods shown", SHOWN, FACE.keySet());
        table(lines);
        command(linesOf(lines, "sh"));
        Check.finish();
    }

    private static List<String> linesOf(List<String> lines, String kind) {
        List<String> inside = new ArrayList<>();
        boolean isInside = false;
        for (String line : lines) {
            if (line.startsWith("```")) {
                isInside = line.equals("```" + kind);
            } else if (isInside && !line.isEmpty()) {
                inside.add(line);
            }
        }
        return inside;
    }

    private static void show(String line) throws IllegalAccessException {
        if (line.startsWith(NEW_OBJECT)) {
            watch = new ShellWatch();
            return;
        }
        Matcher call = CALL.matcher(line);
        if (!call.matches() || !FACE.containsKey(call.group(1))) {
            Check.is(line, "not understood", "a call and its answer");
            return;
        }
        Object[] arguments = arguments(call.group(2));
        SHOWN.add(call.group(1));
        Check.is(line, answer(FACE.get(call.group(1)), arguments), call.group(3));
        if (call.group(1).equals("append")) {
            Check.is("text of " + line, '"' + text(arguments) + '"', call.group(4));
        }
    }

    private static Object[] arguments(String list) {
        if (list.isEmpty()) {
            return new Object[0];
        }
        return Arrays.stream(list.split(", ")).map(ReadmeTest::argument).toArray();
    }

    private static Object argument(String word) {
        if (word.equals("true") || word.equals("false")) {
            return word.equals("true");
        }
        return Long.decode(word).intValue();
    }

    private static String answer(Method method, Object[] arguments) throws IllegalAccessException {
        try {
            return String.valueOf(method.invoke(watch, arguments));
        } catch (InvocationTargetException e) {
            return "throws " + e.getCause().getClass().getSimpleName();
        }
    }

    private static String text(Object[] words) {
        byte[] bytes = new byte[4 * words.length];
        for (int i = 0; i < bytes.length; i++) {
            bytes[i] = (byte) ((Integer) words[i / 4] >> 24 - 8 * (i % 4));
        }
        return new String(bytes, StandardCharsets.ISO_8859_1);
    }

    /** Each method has just one row, with as many parameters and with the exceptions that it declares. */
    private static void table(List<String> lines) {
        Set<String> inTable = new TreeSet<>();
        for (String line : lines) {
            Matcher row = ROW.matcher(line);
            if (!row.matches()) {
                continue;
            }
            Method method = FACE.get(row.group(1));
            Check.is("a method, for the first time: " + line, method != null && inTable.add(row.group(1)), true);
            if (method != null) {
                Check.is("parameters of " + line, arguments(row.group(2).replaceAll("\\w+", "0")).length,
                        method.getParameterCount());
                Check.is("exceptions of " + line, row.group(3), Arrays.stream(method.getExceptionTypes())
                        .map(Class::getSimpleName).collect(Collectors.joining(", ")));
            }
        }
        Check.is("methods in the table", inTable, FACE.keySet());
    }

    /** There is one command, and it can be run as it is given. */
    private static void command(List<String> commands) {
        Check.is("commands", commands, List.of(".ci/run"));
        Check.is("the command is executable", Files.isExecutable(Path.of(".ci/run")), true);
    }
}
