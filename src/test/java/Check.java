import java.nio.charset.StandardCharsets;
import java.util.function.Supplier;

/** What all tests share: due answers, due exceptions, and texts put into the input buffer. */
final class Check {
    private static int asked = 0;
    private static int wrong = 0;

    private Check() {
    }

    static void is(String what, Object got, Object due) {
        asked++;
        if (!got.equals(due)) {
            wrong++;
            System.out.println(what + ": answered " + got + ", due is " + due);
        }
    }

    /** The call is to throw just this class, and to change nothing that can be seen. */
    static void refused(String what, ShellWatch watch, Class<?> due, Supplier<?> call) {
        String before = view(watch);
        Object got;
        try {
            got = call.get();
        } catch (RuntimeException e) {
            got = e.getClass();
        }
        is(what, got, due);
        is(what + " changes nothing", view(watch), before);
    }

    /** All that can be asked without a change. */
    static String view(ShellWatch watch) {
        return game(watch) + " | " + watch.errorOffset();
    }

    /** All that undo brings back. */
    static String game(ShellWatch watch) {
        StringBuilder view = new StringBuilder();
        for (int what = 0; what <= 12; what++) {
            view.append(watch.state(what)).append(' ');
        }
        int shells = watch.state(0);
        for (int place = 0; place < shells; place++) {
            for (int what = 0; what <= 3; what++) {
                view.append(watch.shell(place, what)).append(' ');
            }
            view.append(watch.odds(place)).append(' ');
        }
        view.append("| ").append(beliefs(watch)).append(" | ");
        for (int step = 0; step <= 10000; step++) {
            if (watch.blinks(step) != (step > 0 && watch.blinks(step - 1))) {
                view.append(step).append(' ');
            }
        }
        return view.append("| ").append(watch.checksum()).toString();
    }

    static String beliefs(ShellWatch watch) {
        StringBuilder all = new StringBuilder();
        for (int at = 0; at <= watch.state(0); at++) {
            all.append(at == 0 ? "" : " ").append(watch.belief(at));
        }
        return all.toString();
    }

    static String row(ShellWatch watch) {
        StringBuilder all = new StringBuilder();
        for (int place = 0; place < watch.state(0); place++) {
            all.append(watch.shell(place, 0));
        }
        return all.toString();
    }

    /** Appends the text; the last 20 bytes are filled up by zeros. */
    static void put(ShellWatch watch, String text) {
        byte[] bytes = text.getBytes(StandardCharsets.ISO_8859_1);
        for (int at = 0; at < bytes.length; at += 20) {
            watch.append(word(bytes, at), word(bytes, at + 4), word(bytes, at + 8), word(bytes, at + 12),
                    word(bytes, at + 16));
        }
    }

    private static int word(byte[] bytes, int at) {
        int word = 0;
        for (int i = at; i < at + 4; i++) {
            word = word << 8 | (i < bytes.length ? bytes[i] & 255 : 0);
        }
        return word;
    }

    static int load(ShellWatch watch, String text) {
        put(watch, text);
        return watch.load(text.length());
    }

    static int run(ShellWatch watch, String text) {
        put(watch, text);
        return watch.run(text.length());
    }

    static ShellWatch loaded(String text) {
        ShellWatch watch = new ShellWatch();
        if (load(watch, text) < 0) {
            is("load of " + text, watch.errorOffset(), -1);
        }
        return watch;
    }

    static void finish() {
        System.out.println(asked + " answers asked, " + wrong + " wrong");
        System.exit(wrong == 0 && asked > 0 ? 0 : 1);
    }
}
