/** The bounds that the document names for the buffer, setup texts and scripts: each sentence by itself. */
final class TextBoundsTest {
    private static final Class<?> ILLEGAL = IllegalArgumentException.class;
    private static final int SYNTAX = ShellWatch.SYNTAX_ERROR;
    private static final int RANGE = ShellWatch.OUT_OF_RANGE;
    private static final int REPEATED = ShellWatch.REPEATED;
    private static final int TOO_MANY = ShellWatch.TOO_MANY;
    private static final int TOO_DEEP = ShellWatch.TOO_DEEP;
    private static final int SPACES = 0x20202020;

    public static void main(String[] args) {
        bufferOf500Bytes();
        bufferThatIsFull();
        bytesOfArguments();
        lengths();
        bufferBehindATextThatIsRead();
        errorsLeaveOtherData();
        emptyTexts();
        errorOffsets();
        numbersOfAnyLength();
        numbersTooGreatForAnInt();
        runsAsLongAsPossible();
        wordsAndNumbersSideBySide();
        spaces();
        otherBytes();
        numberOfShells();
        placesOfSetups();
        settings();
        settingsWithoutStatements();
        blinkSteps();
        eightBlinks();
        factors();
        statementsThatOccurOnce();
        statementsThatOccurSeveralTimes();
        scratchedTwice();
        parentheses();
        numbersOfCommands();
        numbersOfRepeats();
        repeatedCommands();
        repeatsInRepeats();
        scriptsThatEndEarly();
        commandsThatEndScripts();
        twoHundredCommands();
        sixtyCommands();
        firstError();
        errorsOfTheSameOffset();
        Check.finish();
    }

    // ---- what the sentences share

    private static void loads(String text, int shells) {
        Check.setup(text, shells, -1);
    }

    /** The error is at the first byte of what is wrong. */
    private static void loadFails(String ahead, String wrong, int code) {
        Check.setup(ahead + wrong, code, ahead.length());
    }

    private static void runs(String text, int done) {
        Check.script(text, done, -1);
    }

    private static void runFails(String ahead, String wrong, int code) {
        Check.script(ahead + wrong, code, ahead.length());
    }

    private static String filled(String text, int length) {
        return text + Check.times(length - text.length(), " ");
    }

    /** A number of a setup text: both bounds, and the first numbers outside of them. */
    private static void range(String ahead, String behind, int least, int greatest, int shells) {
        loads(ahead + least + behind, shells);
        loads(ahead + greatest + behind, shells);
        loads(ahead + "00" + greatest + behind, shells);
        loadFails(ahead, greatest + 1 + behind, RANGE);
        loadFails(ahead, "0" + (greatest + 1) + behind, RANGE);
        if (least > 0) {
            loadFails(ahead, least - 1 + behind, RANGE);
        }
    }

    private static void setting(String ahead, int what, int value) {
        Check.is(ahead + value, Check.loaded("shells 3;" + ahead + value + ";").state(what), value);
    }

    /** A number of a command: 0 to 9999, however many places there are. */
    private static void commandNumber(String ahead, String behind) {
        runs(ahead + "9999" + behind, 0);
        runs(ahead + "0009999" + behind, 0);
        runFails(ahead, "10000" + behind, RANGE);
        runFails(ahead, "99999999999999999999" + behind, RANGE);
    }

    // ---- the input buffer

    private static void bufferOf500Bytes() {
        Check.sentence("The setup text is read from an input buffer of at most 500 bytes.");
        loads(filled("shells 3;", 500), 3);
        loads(filled("", 491) + "shells 2;", 2);
        runs(filled("rest;", 500), 1);
        runs(filled("", 495) + "rest;", 1);
        // Few bytes are more than one token long.
        Check.is("odds of a full text", Check.loaded("shells2;odds 5" + Check.times(121, "+1-1") + ";").odds(0), 5);
        Check.is("odds of a full text", Check.loaded("shells2;odds1" + Check.times(121, "*5/5") + "+1;").odds(0), 2);
        loadFails("shells2;odds 5" + Check.times(121, "+1-1") + "+", "", SYNTAX);
        for (String sign : new String[] {";", "(", "+", "7", "a", "\0", "\u00ff"}) {
            loadFails("", Check.times(500, sign), SYNTAX);
            runFails("", Check.times(500, sign), SYNTAX);
        }
        loadFails(filled("shells 3;", 499), "x", SYNTAX);
        runFails(filled("rest;", 499), "x", SYNTAX);
        loadFails(filled("shells 3", 500), "", SYNTAX);
        runFails(filled("rest", 500), "", SYNTAX);
    }

    private static void bufferThatIsFull() {
        Check.sentence("-1 if it would exceed 500 bytes, and the buffer is unchanged then.");
        Watch watch = new Watch();
        Check.put(watch, filled("shells 4;", 480));
        Check.is("append to 480 bytes", watch.append(SPACES, SPACES, SPACES, SPACES, SPACES), 500);
        Check.is("append to 500 bytes", watch.append(-1, -1, -1, -1, -1), -1);
        Check.is("append to 500 bytes again", watch.append(0, 0, 0, 0, 0), -1);
        Check.refused("load(501)", watch, ILLEGAL, x -> x.load(501));
        Check.is("the buffer as it was", watch.load(500), 4);
        for (int length = 20; length <= 500; length += 20) {
            Check.is("append again", watch.append(SPACES, SPACES, SPACES, SPACES, SPACES), length);
        }
        Check.is("append to a buffer full again", watch.append(SPACES, SPACES, SPACES, SPACES, SPACES), -1);
    }

    private static void bytesOfArguments() {
        Check.sentence("the 4 bytes of each argument, the most significant byte first.");
        for (int at = 0; at < 20; at++) {
            for (int sign : new int[] {0, 'x', 127, 128, 255}) {
                int[] w = {SPACES, SPACES, SPACES, SPACES, SPACES};
                w[at / 4] ^= (sign ^ ' ') << 24 - at % 4 * 8;
                Watch watch = new Watch();
                watch.append(w[0], w[1], w[2], w[3], w[4]);
                Check.is("byte " + sign + " at " + at, watch.run(20), SYNTAX);
                Check.is("offset of byte " + sign, watch.errorOffset(), at);
            }
        }
        Watch watch = new Watch();
        watch.append(Integer.MIN_VALUE, SPACES, SPACES, SPACES, SPACES);
        watch.append(SPACES, SPACES, SPACES, SPACES, Integer.MAX_VALUE);
        Check.is("the bytes appended first are first", watch.run(40), SYNTAX);
        Check.is("their offset", watch.errorOffset(), 0);
    }

    private static void lengths() {
        Check.sentence("if length is negative or greater than the length of the buffer; the buffer is unchanged then");
        Watch watch = new Watch();
        for (int length : new int[] {-1, 1, 500, Integer.MIN_VALUE, Integer.MAX_VALUE}) {
            Check.refused("load(" + length + ") of no bytes", watch, ILLEGAL, x -> x.load(length));
            Check.refused("run(" + length + ") of no bytes", watch, ILLEGAL, x -> x.run(length));
        }
        for (boolean isSetup : new boolean[] {true, false}) {
            Watch two = new Watch();
            Check.put(two, filled(isSetup ? "shells 5;" : "rest;rest;", 40));
            for (int length : new int[] {-1, 41, Integer.MIN_VALUE, Integer.MAX_VALUE}) {
                Check.refused("load(" + length + ") of 40 bytes", two, ILLEGAL, x -> x.load(length));
                Check.refused("run(" + length + ") of 40 bytes", two, ILLEGAL, x -> x.run(length));
                Check.answer(two, x -> x.load(length));
                Check.answer(two, x -> x.run(length));
            }
            Check.is("all 40 bytes", isSetup ? two.load(40) : two.run(40), isSetup ? 5 : 2);
        }
    }

    private static void bufferBehindATextThatIsRead() {
        Check.sentence("The input buffer is empty afterwards, also if the text has an error.");
        String[] texts = {"shells 4;rest;swap 9", "rest;x", "x"};
        for (String text : texts) {
            for (int length = 0; length <= text.length(); length++) {
                int n = length;
                Watch watch = new Watch();
                Check.put(watch, text);
                Check.put(watch, text);
                watch.load(n);
                Check.refused("load behind load of " + n, watch, ILLEGAL, x -> x.load(1));
                Check.is("append behind load of " + n, watch.append(0, 0, 0, 0, 0), 20);
                watch.run(Math.min(n, 20));
                Check.refused("run behind run of " + n, watch, ILLEGAL, x -> x.run(1));
                Check.is("append behind run of " + n, watch.append(0, 0, 0, 0, 0), 20);
            }
        }
    }

    private static void errorsLeaveOtherData() {
        Check.sentence("An error leaves all other data unchanged.");
        String setup = "shells 8;ball 7;scratch 6;trust 1;calm 2;sly 3;purse 4;blink 0 9;odds 5;";
        String script = "swap 0 1;feint 1 2;rest;peek 0;repeat 2(swap 1 3;);";
        for (int done : new int[] {0, 3, 8, 9}) {
            Watch watch = Check.loaded("shells 4;ball 2;scratch 1;blink 2 3;odds chance/9;purse 70;");
            for (int i = 1; i <= done; i++) {
                watch.swap(i % 4, (i + 1) % 4);
            }
            String game = Check.game(watch);
            int left = Math.min(done + 1, 8);
            Check.is("load of a text whose last byte is wrong", Check.load(watch, setup + "x"), SYNTAX);
            Check.is("run of a text whose last byte is wrong", Check.run(watch, script + "x"), SYNTAX);
            Check.is("load of a text that ends too early", Check.load(watch, setup + "blink 1 1"), SYNTAX);
            Check.is("run of a text that ends too early", Check.run(watch, script + "rest"), SYNTAX);
            Check.is("game behind errors", Check.game(watch), game);
            Check.is("errors are no changes", watch.undo(), left - 1);
        }
        Check.sentence("Before the first successful load there are 3 shells");
        Watch watch = new Watch();
        Check.load(watch, setup + "x");
        Check.is("shells behind an error", watch.state(0), 3);
        Check.is("shells behind a load", Check.load(watch, setup), 8);
    }

    private static void emptyTexts() {
        Check.sentence("An empty text has a SYNTAX_ERROR.");
        loadFails("", "", SYNTAX);
        Watch watch = new Watch();
        Check.put(watch, "shells 4;");
        Check.is("no byte of some", watch.load(0), SYNTAX);
        Check.is("its offset", watch.errorOffset(), 0);
        Check.refused("the bytes are gone", watch, ILLEGAL, x -> x.load(1));
        Check.sentence("An empty text is a script without commands.");
        runs("", 0);
        Check.put(watch, "rest;");
        Check.is("no byte of some", watch.run(0), 0);
        Check.is("no error", watch.errorOffset(), -1);
        Check.is("no step", watch.state(1), 0);
        Check.is("one change", watch.undo(), 0);
    }

    private static void errorOffsets() {
        Check.sentence("-1 if it found none or if there was no such call.");
        Watch watch = new Watch();
        Check.is("no call yet", watch.errorOffset(), -1);
        Check.answer(watch, x -> x.load(1));
        Check.answer(watch, x -> x.run(-1));
        Check.is("calls that threw", watch.errorOffset(), -1);
        Check.load(watch, "shells 9;");
        Check.is("an error of load", watch.errorOffset(), 7);
        Check.sentence("the latest call of load or run that did not throw");
        Check.answer(watch, x -> x.load(1));
        Check.answer(watch, x -> x.run(1));
        Check.is("calls that threw behind an error", watch.errorOffset(), 7);
        Check.run(watch, "rest;swap");
        Check.is("an error of run", watch.errorOffset(), 9);
        watch.load(0);
        Check.is("an error at the first byte", watch.errorOffset(), 0);
        Check.run(watch, "steal 0;");
        Check.is("a script that ended early", watch.errorOffset(), -1);
        Check.load(watch, "x");
        Check.load(watch, "shells 3;");
        Check.is("no error of load", watch.errorOffset(), -1);
    }

    // ---- tokens

    private static void numbersOfAnyLength() {
        Check.sentence("A number is a run of decimal digits, of any length (leading zeros do not matter)");
        loads("shells " + Check.times(491, "0") + "3;", 3);
        loads("shells 3;ball " + Check.times(484, "0") + "2;", 3);
        loadFails("shells ", Check.times(491, "0") + "9;", RANGE);
        loadFails("shells ", Check.times(493, "0"), RANGE);
        loadFails("shells ", Check.times(492, "9") + ";", RANGE);
        loadFails("shells 3;odds ", Check.times(485, "9") + ";", RANGE);
        loadFails("shells 3;odds ", Check.times(480, "0") + "10000;", RANGE);
        loads("shells 3;odds " + Check.times(481, "0") + "9999;", 3);
        runs("repeat " + Check.times(483, "0") + "2(rest;);", 2);
        runFails("peek ", Check.times(489, "0") + "10000;", RANGE);
        runFails("peek ", Check.times(494, "9") + ";", RANGE);
    }

    private static void numbersTooGreatForAnInt() {
        Check.sentence("OUT_OF_RANGE: a number outside its range, at its first digit");
        // As an int or a long with a wrap-around each of them would be 3.
        for (String three : new String[] {"4294967299", "8589934595", "18446744073709551619", "36893488147419103235"}) {
            loadFails("shells ", three + ";", RANGE);
            loadFails("shells 8;ball ", three + ";", RANGE);
            loadFails("shells 8;scratch 1 ", three + ";", RANGE);
            loadFails("shells 3;calm ", three + ";", RANGE);
            loadFails("shells 3;blink 1 ", three + ";", RANGE);
            loadFails("shells 3;odds 1-", three + ";", RANGE);
            runFails("swap ", three + " 1;", RANGE);
            runFails("repeat ", three + "(rest;);", RANGE);
        }
    }

    private static void runsAsLongAsPossible() {
        Check.sentence("Each run is as long as possible.");
        loadFails("shells ", "22;", RANGE);
        loadFails("", "shellsball 3;", SYNTAX);
        loadFails("shells 3;", "balls 1;", SYNTAX);
        loadFails("shells 3;", "bal 1;", SYNTAX);
        loadFails("shells 3;", "blinks 1 1;", SYNTAX);
        loadFails("shells 3;blink 12", ";", SYNTAX);
        loadFails("shells 3;odds ", "chancesteps;", SYNTAX);
        loadFails("shells 3;odds ", "shell;", SYNTAX);
        loadFails("shells 3;odds ", "blink;", SYNTAX);
        runFails("swap 01", ";", SYNTAX);
        runFails("", "rests;", SYNTAX);
        runFails("", "res;", SYNTAX);
        runFails("rest;", "restrest;", SYNTAX);
    }

    private static void wordsAndNumbersSideBySide() {
        Check.sentence("a word and a number side by side need none between them");
        loads("shells3;ball1;scratch0 1;trust1;calm1;sly1;purse1;blink1 1;odds1;", 3);
        runs("swap0 1;feint0 1;peek0;repeat2(rest;);steal0;plant0;", 5);
        loadFails("shells 3;ball 1", "x;", SYNTAX);
        loadFails("shells 3;scratch 1", "ball 1;", SYNTAX);
        loadFails("shells 3;odds 1", "shells;", SYNTAX);
        runFails("peek 1", "rest;", SYNTAX);
    }

    private static void spaces() {
        Check.sentence("Spaces (byte 32) may precede any token and may follow the last one");
        String[] setup = {"shells", "3", ";", "ball", "1", ";", "scratch", "0", "2", ";", "blink", "0", "1", ";",
            "odds", "(", "1", "+", "shells", ")", "*", "2", "-", "steps", "/", "chance", ";", ""};
        String[] script = {"swap", "0", "1", ";", "rest", ";", "repeat", "2", "(", "peek", "0", ";", ")", ";", ""};
        for (String space : new String[] {" ", "  ", "       "}) {
            loads(String.join(space, setup), 3);
            loads(space + String.join(space, setup), 3);
            runs(String.join(space, script), 4);
            runs(space + String.join(space, script), 4);
        }
        loads("shells 3;ball 1;scratch 0 2;blink 0 1;odds(1+shells)*2-steps/chance;", 3);
        runs("swap 0 1;rest;repeat 2(peek 0;);", 4);
        loadFails("", "sh ells 3;", SYNTAX);
        loadFails("shells 3;purse 1 ", "1;", SYNTAX);
    }

    private static void otherBytes() {
        Check.sentence("No other byte separates tokens.");
        for (int sign = 0; sign < 256; sign++) {
            boolean isDigit = sign >= '0' && sign <= '9';
            boolean isLetter = sign >= 'a' && sign <= 'z';
            if (isDigit) {
                Check.setup("shells" + (char) sign + "3;", sign == '0' ? 3 : RANGE, sign == '0' ? -1 : 6);
            } else {
                Check.setup("shells" + (char) sign + "3;", sign == ' ' ? 3 : SYNTAX,
                        sign == ' ' ? -1 : isLetter ? 0 : 6);
            }
            if (sign != ' ' && sign != ';' && !isLetter) {
                runFails("rest;", (char) sign + "rest;", SYNTAX);
                loadFails("shells 3;", (char) sign + "ball 1;", SYNTAX);
            }
        }
    }

    // ---- setup texts

    private static void numberOfShells() {
        Check.sentence("The number of shells is 2 to 8");
        for (int shells = 2; shells <= 8; shells++) {
            loads("shells " + shells + ";", shells);
        }
        for (int shells : new int[] {0, 1, 9, 10, 20, 80}) {
            loadFails("shells ", shells + ";", RANGE);
        }
    }

    private static void placesOfSetups() {
        Check.sentence("those of ball and scratch are places");
        for (int shells = 2; shells <= 8; shells++) {
            String ahead = "shells " + shells + ";";
            range(ahead + "ball ", ";", 0, shells - 1, shells);
            range(ahead + "scratch ", ";", 0, shells - 1, shells);
            if (shells > 2) {
                range(ahead + "scratch 1 ", ";", 0, shells - 1, shells);
            }
        }
    }

    private static void settings() {
        Check.sentence("Trust is 1 to 99");
        range("shells 3;trust ", ";", 1, 99, 3);
        setting("trust ", 4, 1);
        setting("trust ", 4, 99);
        Check.sentence("calm 1 to 9");
        range("shells 3;calm ", ";", 1, 9, 3);
        setting("calm ", 5, 1);
        setting("calm ", 5, 9);
        Check.sentence("sly 0 to 9");
        range("shells 3;sly ", ";", 0, 9, 3);
        setting("sly ", 6, 0);
        setting("sly ", 6, 9);
        Check.sentence("purse 0 to 9999");
        range("shells 3;purse ", ";", 0, 9999, 3);
        setting("purse ", 7, 0);
        setting("purse ", 7, 9999);
        Check.sentence("the ball is at 0 .. without these");
        setting("ball ", 2, 0);
        setting("ball ", 2, 2);
    }

    private static void settingsWithoutStatements() {
        Check.sentence("80 without it .. 1 without it .. 0 without it .. 100 without it");
        Watch watch = Check.loaded("shells 8;ball 7;scratch 0 1 2;trust 1;calm 9;sly 9;purse 0;blink 0 9;odds 0;");
        for (int shells = 2; shells <= 8; shells++) {
            Check.load(watch, "shells " + shells + ";");
            int[] due = {shells, 0, 0, 0, 80, 1, 0, 100, 0, 0, 1, 1, 0};
            for (int what = 0; what < due.length; what++) {
                Check.is("state " + what + " of " + shells + " shells", watch.state(what), due[what]);
            }
            for (int place = 0; place < shells; place++) {
                Check.is("no shell is scratched", watch.shell(place, 1), 0);
                Check.is("odds", watch.odds(place), shells - 1);
            }
        }
    }

    private static void blinkSteps() {
        Check.sentence("Those of blink are its first and its last step (0 to 9999, the last not less than the first)");
        range("shells 3;blink ", " 9999;", 0, 9999, 3);
        range("shells 3;blink 0 ", ";", 0, 9999, 3);
        range("shells 3;blink 1 ", ";", 1, 9999, 3);
        range("shells 3;blink 5000 ", ";", 5000, 9999, 3);
        range("shells 3;blink 9999 ", ";", 9999, 9999, 3);
        loadFails("shells 3;blink ", "10000 9999;", RANGE);
        loadFails("shells 3;blink 9999 ", "0;", RANGE);
        Watch watch = Check.loaded("shells 3;blink 0 0;blink 9999 9999;");
        int[] steps = {0, 1, 9998, 9999, 10000};
        for (int step : steps) {
            Check.is("blinks " + step, watch.blinks(step), step == 0 || step == 9999);
        }
    }

    private static void eightBlinks() {
        Check.sentence("at most 8 blinks can be told, which may overlap .. TOO_MANY: a 9th blink, at its first letter");
        String seven = "shells 3;blink 0 9;blink 0 9;blink 5 5;blink 9 20;blink 0 9999;blink 20 21;blink 3 4;";
        loads(seven, 3);
        loads(seven + "blink 0 9;", 3);
        loadFails(seven + "blink 0 9;", "blink 0 9;", TOO_MANY);
        loadFails(seven + "blink 0 9; ball 1; ", "blink 0 9;", TOO_MANY);
        loadFails(seven + "blink 0 9;", "blink", TOO_MANY);
        loadFails(seven + "blink 0 9;", "blink 99999;", TOO_MANY);
        Check.is("blinks of a full text", Check.loaded(seven + "blink 0 9;").state(12), 8);
        Check.sentence("Tells a blink .. if there are 8");
        Check.is("an 8th blink behind a text", Check.loaded(seven).blink(1, 1), 8);
        Watch full = Check.loaded(seven + "blink 0 9;");
        Check.refused("a 9th blink behind a text", full, IllegalStateException.class, x -> x.blink(1, 1));
    }

    private static void factors() {
        Check.sentence("A number as a factor is 0 to 9999.");
        range("shells 3;odds ", ";", 0, 9999, 3);
        range("shells 3;odds 1+", ";", 0, 9999, 3);
        range("shells 3;odds 1-", "*2;", 0, 9999, 3);
        range("shells 3;odds 1*", "+2;", 0, 9999, 3);
        range("shells 3;odds shells/", ";", 0, 9999, 3);
        range("shells 3;odds ((((", "))));", 0, 9999, 3);
    }

    private static void statementsThatOccurOnce() {
        Check.sentence("The statements ball, trust, calm, sly, purse and odds may occur once each");
        for (String word : new String[] {"ball", "trust", "calm", "sly", "purse", "odds"}) {
            String once = "shells 3;" + word + " 1;";
            loads(once, 3);
            loadFails(once, word + " 1;", SYNTAX);
            loadFails(once, word + " 2;", SYNTAX);
            loadFails(once, word, SYNTAX);
            loadFails(once, word + " 99999;", SYNTAX);
            loadFails(once + "blink 1 1;scratch 0;", word + " 1;", SYNTAX);
            loadFails(once + "  ", word + " 1;", SYNTAX);
        }
        loads("shells 3;ball 1;trust 1;calm 1;sly 1;purse 1;odds 1;", 3);
        loads("shells 3;odds 1;purse 1;sly 1;calm 1;trust 1;ball 1;", 3);
        loadFails("shells 3;ball 1;trust 1;calm 1;sly 1;purse 1;odds 1;", "ball 1;", SYNTAX);
        loadFails("shells 3;", "shells 3;", SYNTAX);
    }

    private static void statementsThatOccurSeveralTimes() {
        Check.sentence("the others several times");
        loads("shells 8;scratch 0;scratch 1;scratch 2;scratch 3;scratch 4;scratch 5;scratch 6;scratch 7;", 8);
        loads("shells 8;scratch 7 6 5 4 3 2 1 0;", 8);
        loads("shells 8;scratch 1 3;blink 1 1;scratch 0;blink 1 1;scratch 2 4 5;", 8);
        Watch watch = Check.loaded("shells 8;scratch 1 3;blink 1 1;scratch 0;blink 7 7;scratch 2 4 7;");
        for (int place = 0; place < 8; place++) {
            Check.is("scratch of " + place, watch.shell(place, 1), place == 5 || place == 6 ? 0 : 1);
        }
        Check.is("blinks", watch.state(12), 2);
    }

    private static void scratchedTwice() {
        Check.sentence("REPEATED: a place at which the shell is scratched already, at its first digit.");
        for (int place = 0; place < 8; place++) {
            String once = "shells 8;scratch " + place;
            loadFails(once + " ", place + ";", REPEATED);
            loadFails(once + " ", "00" + place + ";", REPEATED);
            loadFails(once + ";ball 1;scratch ", place + ";", REPEATED);
            loadFails(once + ";scratch " + (place + 1) % 8 + " ", place + " 99;", REPEATED);
        }
        loadFails("shells 2;scratch 0 1 ", "0;", REPEATED);
        loadFails("shells 2;scratch 0 1 ", "2;", RANGE);
        loads("shells 2;scratch 0;ball 0;", 2);
        // What an earlier text scratched does not matter.
        Watch watch = Check.loaded("shells 3;scratch 0 1 2;");
        Check.is("scratches of another text", Check.load(watch, "shells 3;scratch 0 1 2;"), 3);
        Check.load(watch, "shells 3;scratch 2;x");
        Check.is("scratches of a text with an error", Check.load(watch, "shells 3;scratch 2;"), 3);
    }

    private static void parentheses() {
        Check.sentence("Parentheses nest at most 4 deep.");
        loads("shells 3;odds ((((1))));", 3);
        loads("shells 3;odds 1+(2*(3-(4/(5))));", 3);
        loads("shells 3;odds ((((1))))+((((2))))-((((3))));", 3);
        loads("shells 3;odds ((((1))*((2)))+((3)/(4)));", 3);
        Check.sentence("TOO_DEEP: an opening parenthesis of a sum inside 4 others, at that parenthesis");
        loadFails("shells 3;odds ((((", "(1)))));", TOO_DEEP);
        loadFails("shells 3;odds 1+(2*(3-(4/(5+", "(6)))));", TOO_DEEP);
        loadFails("shells 3;odds ((((1))))+((((", "(1)))));", TOO_DEEP);
        loadFails("shells 3;odds ((((1)+(", "(2))));", TOO_DEEP);
        loadFails("shells 3;odds ((((", "(", TOO_DEEP);
        loadFails("shells 3;odds ( ( ( ( ", "( 1 ) ) ) ) );", TOO_DEEP);
        loadFails("shells 3;odds ((((1", "(2))));", SYNTAX);
    }

    // ---- scripts

    private static void numbersOfCommands() {
        Check.sentence("numbers are 0 to 9999 (a place that there is not is no error of the text)");
        for (String word : new String[] {"swap", "feint"}) {
            commandNumber(word + " ", " 0;");
            commandNumber(word + " 0 ", ";");
            runs(word + " 0 1;", 1);
            runs(word + " 3 0;", 0);
            runs(word + " 0 3;", 0);
        }
        for (String word : new String[] {"steal", "plant", "peek"}) {
            commandNumber(word + " ", ";");
            runs(word + " 3;", 0);
        }
        runs("peek 2;", 1);
        commandNumber("repeat 20(peek ", ";);");
        runFails("swap ", "10000 10000;", RANGE);
        runFails("rest;rest;peek ", "10000", RANGE);
    }

    private static void numbersOfRepeats() {
        Check.sentence("that of repeat is 1 to 20");
        runs("repeat 1(rest;);", 1);
        runs("repeat 20(rest;);", 20);
        runs("repeat 0020(rest;);", 20);
        runFails("repeat ", "0(rest;);", RANGE);
        runFails("repeat ", "000(rest;);", RANGE);
        runFails("repeat ", "21(rest;);", RANGE);
        runFails("repeat ", "9999(rest;);", RANGE);
        runFails("repeat 20(repeat 20(repeat ", "21(rest;);););", RANGE);
    }

    private static void repeatedCommands() {
        Check.sentence("repeat does the commands in parentheses so many times.");
        runs("repeat 20();", 0);
        runs("repeat 3(rest;swap 0 1;);rest;", 7);
        runs("repeat 2(repeat 3(repeat 4(rest;);peek 0;);rest;);", 32);
        runs("repeat 20(repeat 20(repeat 20();););rest;", 1);
        runs("repeat 20(repeat 20(repeat 20();repeat 20();););repeat 2(repeat 20();rest;);", 2);
        Watch watch = new Watch();
        Check.run(watch, "repeat 3(swap 0 1;swap 1 2;);swap 0 2;");
        Check.is("order of commands", Check.row(watch), "210");
        Check.is("steps of commands", watch.state(1), 7);
    }

    private static void repeatsInRepeats() {
        Check.sentence("Repeats nest at most 3 deep. .. TOO_DEEP: a repeat inside 3 others, at its first letter.");
        runs("repeat 1(repeat 1(repeat 1(rest;);););", 1);
        runs("repeat 1(repeat 1(repeat 1(rest;);repeat 1(rest;););repeat 1(repeat 1(rest;);););", 3);
        runs("repeat 1(repeat 1(repeat 1();););repeat 1(repeat 1(repeat 1(rest;);););", 1);
        runFails("repeat 1(repeat 1(repeat 1(", "repeat 1(rest;););););", TOO_DEEP);
        runFails("repeat 1(repeat 1(repeat 1(rest;", "repeat 1(rest;););););", TOO_DEEP);
        runFails("repeat 1(repeat 1(repeat 1(rest;);repeat 1( ", "repeat", TOO_DEEP);
        runFails("repeat 1(repeat 1(repeat 1(", "repeat 99", TOO_DEEP);
    }

    private static void scriptsThatEndEarly() {
        Check.sentence("A script ends early at a command that would throw an exception (it is not done)");
        for (String no : new String[] {"swap 0 3", "swap 3 0", "swap 1 1", "swap 9999 9999", "feint 0 3", "feint 3 0",
            "feint 2 2", "peek 3", "peek 9999", "steal 0", "steal 3", "plant 0", "plant 3"}) {
            runs(no + ";", 0);
            runs(no + ";rest;", 0);
            runs("rest;rest;" + no + ";swap 0 1;", 2);
            runs("repeat 5(rest;" + no + ";);rest;", 1);
            runs("repeat 5(rest;repeat 4(rest;repeat 3(" + no + ";);rest;);rest;);rest;", 2);
            Watch watch = new Watch();
            Check.run(watch, "swap 0 2;" + no + ";swap 0 1;");
            Check.is("row behind " + no, Check.row(watch), "210");
            Check.is("steps behind " + no, watch.state(1), 1);
        }
    }

    private static void commandsThatEndScripts() {
        Check.sentence("The commands are as the methods of these names");
        String setup = "shells 3;sly 1;blink 1 3;";
        String[][] due = {{"steal 0;", "0"}, {"rest;steal 0;", "2"}, {"rest;steal 1;", "1"}, {"rest;plant 0;", "1"},
            {"rest;steal 0;plant 2;", "3"}, {"rest;steal 0;steal 0;", "2"}, {"rest;steal 0;plant 3;", "2"},
            {"rest;rest;rest;steal 0;", "4"}, {"rest;rest;rest;rest;steal 0;", "4"},
            {"rest;steal 0;rest;rest;plant 0;", "4"}, {"rest;steal 0;rest;plant 0;", "4"},
            {"rest;steal 0;plant 0;plant 0;", "3"}};
        for (String[] d : due) {
            Watch watch = Check.loaded(setup);
            Check.is("run of " + d[0], Check.run(watch, d[0]), Integer.parseInt(d[1]));
        }
        Watch honest = Check.loaded("shells 3;sly 0;blink 0 9;");
        Check.is("no steal without sly", Check.run(honest, "steal 0;"), 0);
    }

    private static void twoHundredCommands() {
        Check.sentence("or when 200 commands (repeats not counted) were done.");
        String most = "repeat 19(repeat 10(rest;););repeat 8(rest;);";
        runs(most + "rest;", 199);
        runs(most + "rest;rest;", 200);
        runs(most + "rest;rest;rest;", 200);
        runs(most + "rest;rest;swap 9 9;", 200);
        runs("repeat 10(repeat 20(rest;););", 200);
        runs("repeat 20(repeat 20(repeat 20(peek 0;);););", 200);
        Watch watch = new Watch();
        Check.is("more than 200", Check.run(watch, "repeat 10(repeat 20(peek 1;););swap 0 1;rest;"), 200);
        Check.is("the 201st is not done", watch.state(1), 0);
        Check.is("one change", watch.undo(), 0);
        watch = new Watch();
        Check.run(watch, "repeat 20(repeat 20(swap 0 1;rest;););");
        Check.is("swaps of 200", watch.shell(0, 2), 100);
        Check.is("steps of 200", watch.state(1), 200);
        Check.is("the next script", Check.run(watch, "rest;"), 1);
    }

    private static void sixtyCommands() {
        Check.sentence("TOO_MANY: .. a 61st command (repeats counted), at its first letter.");
        String sixty = Check.times(60, "rest;");
        runs(sixty, 60);
        for (String word : new String[] {"swap 0 1;", "feint 0 1;", "rest;", "steal 0;", "plant 0;", "peek 0;",
            "repeat 2();", "rest", "peek 99999;", "repeat 99"}) {
            runFails(sixty, word, TOO_MANY);
            runFails(sixty + "  ", word, TOO_MANY);
        }
        String inRepeats = "repeat 2(" + Check.times(30, "rest;") + ");repeat 1(" + Check.times(27, "rest;");
        runs(inRepeats + "rest;);", 88);
        runFails(inRepeats + "rest;", "rest;);", TOO_MANY);
        runFails(inRepeats + "rest;);", "rest;", TOO_MANY);
        runs(Check.times(57, "rest;") + "repeat 1(repeat 1(repeat 1();););", 57);
        runFails(Check.times(58, "rest;") + "repeat 1(repeat 1(", "repeat 1();););", TOO_MANY);
        runs("repeat 2(" + Check.times(59, "rest;") + ");", 118);
        Check.sentence("a script of 60 commands does not limit the next one");
        Watch watch = new Watch();
        Check.run(watch, sixty);
        Check.is("60 commands again", Check.run(watch, sixty), 60);
        Check.is("61 commands", Check.run(watch, sixty + "rest;"), TOO_MANY);
        Check.is("60 commands behind an error", Check.run(watch, sixty), 60);
    }

    // ---- which error

    private static void firstError() {
        Check.sentence("The first error in a text is the one with the smallest offset.");
        loadFails("shells ", "9 x", RANGE);
        loadFails("shells 3;", "x 9;ball 9;", SYNTAX);
        loadFails("shells 3;ball ", "3;scratch 0 0;x", RANGE);
        loadFails("shells 3;scratch 1 ", "1 9;ball 9;", REPEATED);
        loadFails("shells 3;scratch ", "9 1 1;", RANGE);
        loadFails("shells 3;blink ", "10000 4 4;", RANGE);
        loadFails("shells 3;blink 5 ", "4 4", RANGE);
        loadFails("shells 3;odds ((((", "(10000", TOO_DEEP);
        loadFails("shells 3;odds ((((", "10000(", RANGE);
        loadFails("shells 3;ball 1;", "ball", SYNTAX);
        runFails("swap ", "10000;x", RANGE);
        runFails("", "x;swap 10000 1;", SYNTAX);
        runFails("repeat ", "21 rest", RANGE);
        runFails("repeat 2 ", "rest 10000", SYNTAX);
        runFails("repeat 2(", "x;repeat 21", SYNTAX);
    }

    private static void errorsOfTheSameOffset() {
        Check.sentence("If several kinds of error have the same offset, the first one in this list counts:"
                + " SYNTAX_ERROR ahead of OUT_OF_RANGE");
        loadFails("", "99999;", SYNTAX);
        loadFails("shells 3;", "99999;", SYNTAX);
        loadFails("shells 3;ball 1 ", "99999;", SYNTAX);
        loadFails("shells 3;blink 1 1 ", "0;", SYNTAX);
        loadFails("shells 3;odds 1 ", "10000;", SYNTAX);
        runFails("swap 0 1 ", "10000;", SYNTAX);
        runFails("rest ", "10000;", SYNTAX);
        Check.sentence("SYNTAX_ERROR ahead of TOO_MANY and TOO_DEEP");
        loadFails("shells 3;" + Check.times(8, "blink 1 1;"), "x 1 1;", SYNTAX);
        loadFails("shells 3;odds ((((1", "(1))));", SYNTAX);
        runFails(Check.times(60, "rest;"), "x;", SYNTAX);
        runFails(Check.times(60, "rest;"), ";", SYNTAX);
        runFails(Check.times(60, "rest;") + "  ", ")", SYNTAX);
        runFails("repeat 1(repeat 1(repeat 1(rest ", "repeat 1(rest;););););", SYNTAX);
        Check.sentence("TOO_MANY ahead of TOO_DEEP");
        String deep = "repeat 1(repeat 1(repeat 1(";
        runFails(deep + Check.times(56, "rest;"), "repeat 1();", TOO_DEEP);
        runFails(deep + Check.times(57, "rest;"), "repeat 1();", TOO_MANY);
    }
}
