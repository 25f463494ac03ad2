import java.io.IOException;
import java.lang.reflect.Constructor;
import java.lang.reflect.Field;
import java.lang.reflect.Method;
import java.lang.reflect.Modifier;
import java.nio.file.Files;
import java.nio.file.Path;
import java.util.HashSet;
import java.util.List;
import java.util.Set;
import java.util.TreeSet;
import java.util.regex.Matcher;
import java.util.regex.Pattern;

/** The document's public face, and those rules of LANGUAGE.md that can be seen from outside or in the source. */
final class FaceTest {
    private static final String[] METHODS = {
        "public int append(int,int,int,int,int)",
        "public int load(int) throws IllegalArgumentException",
        "public int run(int) throws IllegalArgumentException",
        "public int errorOffset()",
        "public int state(int) throws IllegalArgumentException",
        "public int shell(int,int) throws IndexOutOfBoundsException,IllegalArgumentException",
        "public int belief(int) throws IllegalArgumentException",
        "public double chance(int) throws IllegalArgumentException",
        "public float doubt()",
        "public int guess()",
        "public boolean blinks(int) throws IllegalArgumentException",
        "public int odds(int) throws IndexOutOfBoundsException",
        "public int fewest()",
        "public int rows(int) throws IllegalArgumentException",
        "public int fool(int) throws IllegalArgumentException",
        "public int caught(int) throws IllegalArgumentException",
        "public boolean swap(int,int) throws IndexOutOfBoundsException,IllegalArgumentException",
        "public boolean feint(int,int) throws IndexOutOfBoundsException,IllegalArgumentException",
        "public boolean rest()",
        "public int steal(int) throws IndexOutOfBoundsException,IllegalStateException",
        "public int plant(int) throws IndexOutOfBoundsException,IllegalStateException",
        "public boolean peek(int) throws IndexOutOfBoundsException",
        "public int bet(int,int) throws IndexOutOfBoundsException,IllegalArgumentException,IllegalStateException",
        "public boolean scratch(int,boolean) throws IndexOutOfBoundsException",
        "public int blink(int,int) throws IllegalArgumentException,IllegalStateException",
        "public int suspect(int) throws NoSuchElementException",
        "public int undo()",
        "public long checksum()"};
    private static final int MOST_LINES = 60;

    public static void main(String[] args) throws IOException {
        constants();
        methods();
        members();
        source(Files.readString(Path.of(System.getProperty("shellwatch.source", "src/main/java/ShellWatch.java"))));
        Check.finish();
    }

    private static void constants() {
        Check.is("SYNTAX_ERROR", ShellWatch.SYNTAX_ERROR, -2);
        Check.is("OUT_OF_RANGE", ShellWatch.OUT_OF_RANGE, -3);
        Check.is("REPEATED", ShellWatch.REPEATED, -4);
        Check.is("TOO_MANY", ShellWatch.TOO_MANY, -5);
        Check.is("TOO_DEEP", ShellWatch.TOO_DEEP, -6);
        Set<String> constants = new TreeSet<>();
        for (Field field : ShellWatch.class.getDeclaredFields()) {
            if (!Modifier.isPrivate(field.getModifiers())) {
                constants.add(Modifier.toString(field.getModifiers()) + " " + field.getType() + " " + field.getName());
            }
        }
        Set<String> due = new TreeSet<>();
        for (String name : new String[] {"SYNTAX_ERROR", "OUT_OF_RANGE", "REPEATED", "TOO_MANY", "TOO_DEEP"}) {
            due.add("public static final int " + name);
        }
        Check.is("constants", constants, due);
    }

    private static void methods() {
        Set<String> got = new TreeSet<>();
        for (Method method : ShellWatch.class.getDeclaredMethods()) {
            if (!Modifier.isPrivate(method.getModifiers())) {
                got.add(method.toString().replace("ShellWatch.", "").replaceAll("java\\.(lang|util)\\.", ""));
            }
        }
        Check.is("methods", got, new TreeSet<>(List.of(METHODS)));
        Constructor<?>[] constructors = ShellWatch.class.getDeclaredConstructors();
        Check.is("constructors", constructors.length, 1);
        Check.is("constructor", constructors[0].toString(), "public ShellWatch()");
        Check.is("class", Modifier.toString(ShellWatch.class.getModifiers()), "public final");
        Check.is("parent", ShellWatch.class.getSuperclass(), Object.class);
    }

    private static void members() {
        Set<String> face = new HashSet<>();
        for (String method : METHODS) {
            face.add(method.replaceAll("^public \\w+ (\\w+)\\(.*$", "$1"));
        }
        for (Method method : ShellWatch.class.getDeclaredMethods()) {
            Check.is(method + " is no hidden namesake",
                    Modifier.isPrivate(method.getModifiers()) && face.contains(method.getName()), false);
        }
        for (Class<?> inner : ShellWatch.class.getDeclaredClasses()) {
            int is = inner.getModifiers();
            Check.is(inner + " is static", Modifier.isStatic(is), true);
            Check.is(inner + " is public", Modifier.isPublic(is) || Modifier.isProtected(is), false);
            Check.is(inner + " has more than 20 fields", fieldsOf(inner) > 20, false);
            for (Method method : inner.getDeclaredMethods()) {
                Check.is(method + " is no namesake", face.contains(method.getName()), false);
                Check.is(method + " has more than 7 parameters", method.getParameterCount() > 7, false);
            }
        }
        Check.is("classes", ShellWatch.class.getDeclaredClasses().length < 12, true);
        Check.is("fields", fieldsOf(ShellWatch.class) <= 20, true);
    }

    private static int fieldsOf(Class<?> type) {
        int count = 0;
        for (Field field : type.getDeclaredFields()) {
            boolean isStatic = Modifier.isStatic(field.getModifiers());
            Check.is(field + " is final if it is static", !isStatic || Modifier.isFinal(field.getModifiers()), true);
            count += isStatic ? 0 : 1;
        }
        return count;
    }

    private static void source(String source) {
        String code = source.replaceAll("(?s)/\\*.*?\\*/", "").replaceAll("//[^\n]*", "")
                .replaceAll("\"[^\"\n]*\"", "\"\"");
        Check.is("signs are ASCII", source.chars().allMatch(c -> c < 127), true);
        for (String no : new String[] {"->", "::", "synchronized", "finally", "assert", "package", "protected",
            "Exact", "native", "volatile", "System.out", "getMessage"}) {
            boolean isWord = no.matches("\\w+");
            Check.is("no " + no, Pattern.compile(isWord ? "\\b" + no + "\\b" : Pattern.quote(no)).matcher(code).find(),
                    false);
        }
        Matcher imports = Pattern.compile("import ([\\w.*]+);").matcher(code);
        Set<String> imported = new TreeSet<>();
        while (imports.find()) {
            imported.add(imports.group(1));
        }
        imported.removeAll(Set.of("java.util.Arrays", "java.util.NoSuchElementException"));
        Check.is("imports", imported, Set.of());
        methodLengths(source);
    }

    /** A method begins at four or eight spaces, and ends with a brace as far in. */
    private static void methodLengths(String source) {
        String[] lines = source.split("\n");
        int start = -1;
        for (int i = 0; i < lines.length; i++) {
            if (lines[i].matches("( {4}| {8})[\\w ]+(\\[\\])? \\w+\\(.*")) {
                start = i;
            }
            if (lines[i].matches("( {4}| {8})\\}") && start >= 0) {
                Check.is("lines of the method at line " + (start + 1), i - start + 1 <= MOST_LINES, true);
                start = -1;
            }
        }
    }
}
