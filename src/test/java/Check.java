import java.nio.charset.StandardCharsets;
import java.util.Collections;
import java.util.function.Function;

/** What all tests share: due answers, due exceptions, and texts put into the input buffer. */
final class Check {
    // The steps whose blinks are looked at: an object has 512 calls.
    private static final int[] LOOKED_AT = {0, 1, 2, 3, 4, 5, 6, 7, 8, 9, 10, 11, 12, 99, 100, 101, 199, 200, 201,
        9998, 9999, 10000, 20000};

    private static String sentence = "";
    private static int asked = 0;
    private static int wrong = 0;

    private Check() {
    }

    /** The words of the document that the answers asked from here on are about. */
    static void sentence(String words) {
        sentence = words + "\n    ";
    }

    static void is(String what, Object got, Object due) {
        asked++;
        if (!got.equals(due)) {
            wrong++;
            System.out.println(sentence + what + ": answered " + got + ", due is " + due);
        }
    }

    /** What the call answers; the class of the exception if it throws one. */
    static Object answer(Watch watch, Function<Watch, ?> call) {
        try {
            return call.apply(watch);
        } catch (RuntimeException e) {
            return e.getClass();
        }
    }

    /** The call is to throw just this class, and to change nothing that can be asked. */
    static void refused(String what, Watch watch, Class<?> due, Function<Watch, ?> call) {
        Watch twin = watch.twin();
        is(what, answer(twin, call), due);
        is(what + " changes nothing", view(twin), view(watch));
    }

    /** All that the object tells of itself: the game, the error, all that can be undone, the buffer. */
    static String view(Watch watch) {
        Watch twin = watch.twin();
        StringBuilder view = new StringBuilder(look(twin));
        view.append("| error ").append(twin.errorOffset()).append(" | undo");
        for (int left = twin.undo(); left >= 0; left = twin.undo()) {
            view.append(' ').append(left).append(' ').append(twin.checksum());
        }
        return view.append(" | buffer ").append(twin.append(0, 0, 0, 0, 0)).toString();
    }

    /** All that undo brings back. */
    static String game(Watch watch) {
        return look(watch.twin());
    }

    private static String look(Watch watch) {
        StringBuilder view = new StringBuilder();
        for (int what = 0; what <= 12; what++) {
            view.append(watch.state(what)).append(' ');
        }
        int shells = watch.state(0);
        for (int place = 0; place < shells; place++) {
            view.append("| ");
            for (int what = 0; what <= 3; what++) {
                view.append(watch.shell(place, what)).append(' ');
            }
            view.append(watch.belief(place)).append(' ').append(watch.odds(place)).append(' ');
        }
        view.append("| ").append(watch.belief(shells)).append(" | ");
        for (int step : LOOKED_AT) {
            view.append(watch.blinks(step) ? 1 : 0);
        }
        return view.append(" | ").append(watch.checksum()).toString();
    }

    static String beliefs(Watch watch) {
        StringBuilder all = new StringBuilder();
        for (int at = 0; at <= watch.state(0); at++) {
            all.append(at == 0 ? "" : " ").append(watch.belief(at));
        }
        return all.toString();
    }

    static String row(Watch watch) {
        StringBuilder all = new StringBuilder();
        for (int place = 0; place < watch.state(0); place++) {
            all.append(watch.shell(place, 0));
        }
        return all.toString();
    }

    /** Appends the text; the last 20 bytes are filled up by zeros. */
    static void put(Watch watch, String text) {
        for (int[] w : words(text)) {
            watch.append(w[0], w[1], w[2], w[3], w[4]);
        }
    }

    /** The arguments of append, for each 20 bytes of the text. */
    static int[][] words(String text) {
        byte[] bytes = text.getBytes(StandardCharsets.ISO_8859_1);
        int[][] words = new int[(bytes.length + 19) / 20][5];
        for (int i = 0; i < words.length * 5; i++) {
            words[i / 5][i % 5] = word(bytes, 4 * i);
        }
        return words;
    }

    private static int word(byte[] bytes, int at) {
        int word = 0;
        for (int i = at; i < at + 4; i++) {
            word = word << 8 | (i < bytes.length ? bytes[i] & 255 : 0);
        }
        return word;
    }

    static int load(Watch watch, String text) {
        put(watch, text);
        return watch.load(text.length());
    }

    static int run(Watch watch, String text) {
        put(watch, text);
        return watch.run(text.length());
    }

    static Watch loaded(String text) {
        Watch watch = new Watch();
        if (load(watch, text) < 0) {
            is("load of " + text, watch.errorOffset(), -1);
        }
        return watch;
    }

    static String times(int count, String text) {
        return String.join("", Collections.nCopies(count, text));
    }

    /** A setup text for a new object: what load answers, and the offset of the error (-1 for none). */
    static void setup(String text, int due, int offset) {
        Watch watch = new Watch();
        String before = game(watch);
        is("load of '" + text + "'", load(watch, text), due);
        textIsRead("load of '" + text + "'", watch, before, offset);
    }

    /** A script for a new object: what run answers, and the offset of the error (-1 for none). */
    static void script(String text, int due, int offset) {
        Watch watch = new Watch();
        String before = game(watch);
        is("run of '" + text + "'", run(watch, text), due);
        textIsRead("run of '" + text + "'", watch, before, offset);
    }

    /** The buffer is empty behind it; an error is no change, all else is one. */
    private static void textIsRead(String what, Watch watch, String before, int offset) {
        is("errorOffset behind " + what, watch.errorOffset(), offset);
        is("buffer behind " + what, watch.append(0, 0, 0, 0, 0), 20);
        if (offset >= 0) {
            is("game behind " + what, game(watch), before);
            is("undo behind " + what, watch.undo(), -1);
        } else {
            is("undo behind " + what, watch.undo(), 0);
            is("game undone behind " + what, game(watch), before);
        }
    }

    static void finish() {
        System.out.println(asked + " answers asked, " + wrong + " wrong");
        System.exit(wrong == 0 && asked > 0 ? 0 : 1);
    }
}
