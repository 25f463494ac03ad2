import java.util.Arrays;
import java.util.List;

/**
 * The grammars of setup texts and scripts: behind each token of a text every token is tried, and the
 * end of the text.
 */
final class GrammarTest {
    private static final String NUMBER = "2";
    private static final List<String> TOKENS = List.of("shells", "ball", "scratch", "trust", "calm", "sly", "purse",
            "blink", "odds", "steps", "blinks", "chance", "swap", "feint", "rest", "steal", "plant", "peek", "repeat",
            "bet", "undo", "x", "z", "a", NUMBER, ";", "+", "-", "*", "/", "(", ")", ",", ".", "@", "%", "\0", "\n",
            "\u00a0", "\u00ff", "{", "`", ":", "A");
    private static final String STATEMENT = "ball scratch trust calm sly purse blink odds";
    private static final String FACTOR = "2 shells steps blinks chance (";
    private static final String COMMAND = "swap feint rest steal plant peek repeat";

    // Each token with those that may follow it.
    private static final String[][] SETUP = {
        {"", "shells"}, {"shells", "2"}, {"3", ";"}, {";", STATEMENT},
        {"scratch", "2"}, {"1", "2 ;"}, {"0", "2 ;"}, {";", STATEMENT},
        {"blink", "2"}, {"0", "2"}, {"1", ";"}, {";", STATEMENT},
        {"ball", "2"}, {"1", ";"}, {";", "scratch trust calm sly purse blink odds"},
        {"trust", "2"}, {"9", ";"}, {";", "scratch calm sly purse blink odds"},
        {"calm", "2"}, {"9", ";"}, {";", "scratch sly purse blink odds"},
        {"sly", "2"}, {"9", ";"}, {";", "scratch purse blink odds"},
        {"purse", "2"}, {"9", ";"}, {";", "scratch blink odds"},
        {"odds", FACTOR}, {"1", "+ - * / ;"}, {"+", FACTOR}, {"shells", "+ - * / ;"}, {"*", FACTOR},
        {"(", FACTOR}, {"steps", "+ - * / )"}, {"-", FACTOR}, {"blinks", "+ - * / )"}, {"/", FACTOR},
        {"(", FACTOR}, {"chance", "+ - * / )"}, {")", "+ - * / )"}, {")", "+ - * / ;"}, {"-", FACTOR},
        {"2", "+ - * / ;"}, {";", "scratch blink"}, {"scratch", "2"}, {"2", "2 ;"}, {";", "scratch blink"}};
    private static final String[][] SCRIPT = {
        {"", COMMAND}, {"swap", "2"}, {"0", "2"}, {"1", ";"}, {";", COMMAND},
        {"feint", "2"}, {"0", "2"}, {"1", ";"}, {";", COMMAND}, {"rest", ";"}, {";", COMMAND},
        {"peek", "2"}, {"0", ";"}, {";", COMMAND}, {"repeat", "2"}, {"2", "("}, {"(", COMMAND + " )"},
        {"rest", ";"}, {";", COMMAND + " )"}, {"repeat", "2"}, {"3", "("}, {"(", COMMAND + " )"},
        {")", ";"}, {";", COMMAND + " )"}, {")", ";"}, {";", COMMAND},
        {"steal", "2"}, {"0", ";"}, {";", COMMAND}, {"plant", "2"}, {"0", ";"}, {";", COMMAND}};

    public static void main(String[] args) {
        Check.sentence("a token or byte that the grammar does not allow here, at its first byte");
        tokensBehindEach(SETUP, true);
        tokensBehindEach(SCRIPT, false);
        Check.sentence("the end of the text, at its length, if the text ends too early");
        endsBehindEach(SETUP, true);
        endsBehindEach(SCRIPT, false);
        Check.finish();
    }

    private static int read(Watch watch, String text, boolean isSetup) {
        return isSetup ? Check.load(watch, text) : Check.run(watch, text);
    }

    private static void tokensBehindEach(String[][] text, boolean isSetup) {
        StringBuilder ahead = new StringBuilder();
        for (String[] step : text) {
            ahead.append(step[0]).append(step[0].isEmpty() ? "" : " ");
            List<String> allowed = Arrays.asList(step[1].split(" "));
            for (String token : TOKENS) {
                tokenBehind(ahead.toString(), token, allowed.contains(token), isSetup);
            }
        }
    }

    private static void tokenBehind(String ahead, String token, boolean isAllowed, boolean isSetup) {
        Watch watch = new Watch();
        int code = read(watch, ahead + token, isSetup);
        boolean isError = code == ShellWatch.SYNTAX_ERROR && watch.errorOffset() == ahead.length();
        Check.is("'" + ahead + "' allows '" + token + "'", !isError, isAllowed);
    }

    private static void endsBehindEach(String[][] text, boolean isSetup) {
        StringBuilder ahead = new StringBuilder();
        for (String[] step : text) {
            ahead.append(ahead.length() == 0 ? "" : " ").append(step[0]);
            List<String> allowed = Arrays.asList(step[1].split(" "));
            boolean isWhole = isSetup ? allowed.contains("scratch")
                    : allowed.contains("rest") && !allowed.contains(")");
            for (String end : new String[] {"", " ", "   "}) {
                endBehind(ahead + end, isWhole, isSetup);
            }
        }
    }

    private static void endBehind(String text, boolean isWhole, boolean isSetup) {
        Watch watch = new Watch();
        int code = read(watch, text, isSetup);
        Check.is("'" + text + "' is whole", code >= 0, isWhole);
        if (!isWhole) {
            Check.is("code of '" + text + "'", code, ShellWatch.SYNTAX_ERROR);
        }
        Check.is("offset of '" + text + "'", watch.errorOffset(), isWhole ? -1 : text.length());
    }
}
