import java.util.Arrays;
import java.util.NoSuchElementException;

/** Shells in a row, a ball, and a watcher who follows it; README.md tells how to use it. */
public final class ShellWatch {
    public static final int SYNTAX_ERROR = -2;
    public static final int OUT_OF_RANGE = -3;
    public static final int REPEATED = -4;
    public static final int TOO_MANY = -5;
    public static final int TOO_DEEP = -6;

    private static final int NOTHING = -1;
    private static final int BUFFER_SIZE = 500;
    private static final int APPENDED_BYTES = 20;
    private static final int FIRST_SHELLS = 3;
    private static final int FEWEST_SHELLS = 2;
    private static final int MOST_SHELLS = 8;
    private static final int MOST_SHELLS_FOR_ROWS = 6;
    private static final int MOST_SWAPS_FOR_ROWS = 6;
    private static final int TOO_MANY_SHELLS_FOR_ROWS = -2;
    private static final int MOST_NUMBER = 9999;
    private static final int MOST_ASKED_STEP = 20000;
    private static final int MOST_FORETOLD_STEPS = 20;
    private static final int MOST_STAKE = 999;
    private static final int LAST_STATE = 12;
    private static final int LAST_OF_SHELL = 3;
    private static final int LAST_OF_FOOL = 4;
    private static final int MOST_UNDONE = 8;
    private static final int KEPT_GAMES = MOST_UNDONE + 1;

    private final Input input = new Input();
    private final Script script = new Script();
    private final Trick trick = new Trick();
    private final Game draft = new Game();
    // A ring: the game as it is, and behind it the games ahead of the changes that can be undone.
    private final Game[] games = new Game[KEPT_GAMES];
    private int present;
    private int undoable;

    public ShellWatch() {
        for (int i = 0; i < games.length; i++) {
            games[i] = new Game();
        }
    }

    public int append(int w0, int w1, int w2, int w3, int w4) {
        if (!input.hasRoom(APPENDED_BYTES)) {
            return NOTHING;
        }
        input.putWord(w0);
        input.putWord(w1);
        input.putWord(w2);
        input.putWord(w3);
        input.putWord(w4);
        return input.length;
    }

    public int load(int length) throws IllegalArgumentException {
        requireLength(length);
        input.begin(length);
        if (!SetupReader.read(input, draft)) {
            return input.error;
        }
        change().copyFrom(draft);
        return draft.row.shells;
    }

    public int run(int length) throws IllegalArgumentException {
        requireLength(length);
        input.begin(length);
        script.clear();
        if (!script.readCommands(input, 0) || !input.take(Token.END)) {
            return input.error;
        }
        script.performRange(change(), 0, script.size, 0);
        return script.done;
    }

    public int errorOffset() {
        return input.errorAt;
    }

    public int state(int what) throws IllegalArgumentException {
        requireWhat(what, LAST_STATE);
        return game().number(what);
    }

    public int shell(int place, int what) throws IndexOutOfBoundsException, IllegalArgumentException {
        requirePlace(place);
        requireWhat(what, LAST_OF_SHELL);
        return game().row.number(place, what);
    }

    public int belief(int at) throws IllegalArgumentException {
        requirePlaceOrHand(at);
        return game().mind.belief[at];
    }

    public double chance(int at) throws IllegalArgumentException {
        requirePlaceOrHand(at);
        Mind mind = game().mind;
        int sum = mind.sum();
        return sum > 0 ? (double) mind.belief[at] / (double) sum : 0.0;
    }

    public float doubt() {
        Mind mind = game().mind;
        int sum = mind.sum();
        return sum > 0 ? 1.0f - (float) mind.greatest() / (float) sum : 0.0f;
    }

    public int guess() {
        return game().mind.likeliestShell();
    }

    public boolean blinks(int step) throws IllegalArgumentException {
        if (step < 0 || step > MOST_ASKED_STEP) {
            throw new IllegalArgumentException("step is out of range");
        }
        return game().blinks.has(step);
    }

    public int odds(int place) throws IndexOutOfBoundsException {
        requirePlace(place);
        Game game = game();
        return game.formula.value(game, place);
    }

    public int fewest() {
        return game().row.swapsToFirst();
    }

    public int rows(int swaps) throws IllegalArgumentException {
        if (swaps < 0 || swaps > MOST_SWAPS_FOR_ROWS) {
            throw new IllegalArgumentException("swaps is out of range");
        }
        int shells = game().row.shells;
        return shells > MOST_SHELLS_FOR_ROWS ? TOO_MANY_SHELLS_FOR_ROWS : countRows(shells, swaps);
    }

    public int fool(int what) throws IllegalArgumentException {
        requireWhat(what, LAST_OF_FOOL);
        trick.find(game());
        return trick.number(what);
    }

    public int caught(int steps) throws IllegalArgumentException {
        if (steps < 1 || steps > MOST_FORETOLD_STEPS) {
            throw new IllegalArgumentException("steps is out of range");
        }
        draft.copyFrom(game());
        int times = 0;
        for (int step = 0; step < steps; step++) {
            trick.find(draft);
            draft.makeMove(trick.isSwap, trick.a, trick.b);
            if (draft.row.ball == draft.mind.likeliestShell()) {
                times++;
            }
        }
        return times;
    }

    public boolean swap(int a, int b) throws IndexOutOfBoundsException, IllegalArgumentException {
        requireTwoPlaces(a, b);
        return change().makeMove(true, a, b);
    }

    public boolean feint(int a, int b) throws IndexOutOfBoundsException, IllegalArgumentException {
        requireTwoPlaces(a, b);
        return change().makeMove(false, a, b);
    }

    public boolean rest() {
        return change().makeStill(game().row.ball);
    }

    public int steal(int place) throws IndexOutOfBoundsException, IllegalStateException {
        requirePlace(place);
        if (!game().canSteal(place)) {
            throw new IllegalStateException("the ball cannot be stolen there now");
        }
        return moveBall(game().row.shells);
    }

    public int plant(int place) throws IndexOutOfBoundsException, IllegalStateException {
        requirePlace(place);
        if (!game().canPlant()) {
            throw new IllegalStateException("the ball cannot be planted now");
        }
        return moveBall(place);
    }

    public boolean peek(int place) throws IndexOutOfBoundsException {
        requirePlace(place);
        return change().lookUnder(place);
    }

    public int bet(int place, int stake)
            throws IndexOutOfBoundsException, IllegalArgumentException, IllegalStateException {
        requirePlace(place);
        if (stake < 1 || stake > MOST_STAKE) {
            throw new IllegalArgumentException("stake is out of range");
        }
        if (game().purse < stake) {
            throw new IllegalStateException("the purse is less than the stake");
        }
        return change().playBet(place, stake);
    }

    public boolean scratch(int place, boolean isOn) throws IndexOutOfBoundsException {
        requirePlace(place);
        Row row = change().row;
        boolean wasScratched = row.isScratched(place);
        row.setScratched(place, isOn);
        return wasScratched;
    }

    public int blink(int first, int last) throws IllegalArgumentException, IllegalStateException {
        if (first < 0 || first > MOST_NUMBER || last < first || last > MOST_NUMBER) {
            throw new IllegalArgumentException("first or last is out of range");
        }
        if (game().blinks.isFull()) {
            throw new IllegalStateException("all blinks are told");
        }
        Blinks blinks = change().blinks;
        blinks.tell(first, last);
        return blinks.count;
    }

    public int suspect(int k) throws NoSuchElementException {
        int place = game().mind.placeOfRank(k);
        if (place < 0) {
            throw new NoSuchElementException("not so many places are believed in");
        }
        return place;
    }

    public int undo() {
        if (undoable == 0) {
            return NOTHING;
        }
        present = present > 0 ? present - 1 : KEPT_GAMES - 1;
        undoable--;
        return undoable;
    }

    public long checksum() {
        Game game = game();
        long sum = 0;
        for (int what = 0; what <= LAST_STATE; what++) {
            sum = 31 * sum + game.number(what);
        }
        int shells = game.row.shells;
        for (int place = 0; place < shells; place++) {
            for (int what = 0; what <= LAST_OF_SHELL; what++) {
                sum = 31 * sum + game.row.number(place, what);
            }
            sum = 31 * sum + game.mind.belief[place];
        }
        return 31 * sum + game.mind.belief[shells];
    }

    private Game game() {
        return games[present];
    }

    /** Keeps the game as it is for undo, and gives a copy of it that is to be changed. */
    private Game change() {
        Game before = games[present];
        present = present + 1 < KEPT_GAMES ? present + 1 : 0;
        undoable = Math.min(undoable + 1, MOST_UNDONE);
        games[present].copyFrom(before);
        return games[present];
    }

    private int moveBall(int to) {
        Game game = change();
        game.makeStill(to);
        return game.mind.sum();
    }

    private void requireLength(int length) {
        if (length < 0 || length > input.length) {
            throw new IllegalArgumentException("length is out of range");
        }
    }

    private void requirePlace(int place) {
        if (!game().row.hasPlace(place)) {
            throw new IndexOutOfBoundsException("there is no such place");
        }
    }

    private void requireTwoPlaces(int a, int b) {
        requirePlace(a);
        requirePlace(b);
        if (a == b) {
            throw new IllegalArgumentException("the places are equal");
        }
    }

    private void requirePlaceOrHand(int at) {
        if (at < 0 || at > game().row.shells) {
            throw new IllegalArgumentException("at is out of range");
        }
    }

    private void requireWhat(int what, int last) {
        if (what < 0 || what > last) {
            throw new IllegalArgumentException("what is out of range");
        }
    }

    /**
     * Exactly so many swaps make the rows that need so many, or 2, 4, 6 .. fewer: two equal swaps
     * change nothing. The row of which they are made does not matter.
     */
    private static int countRows(int shells, int swaps) {
        int[] needing = new int[MOST_SWAPS_FOR_ROWS + 1];
        needing[0] = 1;
        for (int last = 1; last < shells; last++) {
            for (int needed = MOST_SWAPS_FOR_ROWS; needed > 0; needed--) {
                needing[needed] += last * needing[needed - 1];
            }
        }
        int count = 0;
        for (int needed = swaps; needed >= 0; needed -= 2) {
            count += needing[needed];
        }
        return count;
    }

    /** What a text is made of; a word or sign that stands in neither grammar is UNKNOWN. */
    private enum Token {
        END(""), NUMBER(""), UNKNOWN(""),
        SEMICOLON(";"), PLUS("+"), MINUS("-"), TIMES("*"), OVER("/"), OPEN("("), CLOSE(")"),
        SHELLS("shells"), STEPS("steps"), BLINKS("blinks"), CHANCE("chance"),
        BALL("ball"), SCRATCH("scratch"), TRUST("trust"), CALM("calm"), SLY("sly"),
        PURSE("purse"), BLINK("blink"), ODDS("odds"),
        SWAP("swap"), FEINT("feint"), REST("rest"), STEAL("steal"), PLANT("plant"),
        PEEK("peek"), REPEAT("repeat");

        private static final Token[] ALL = values();

        private final String text;

        Token(String text) {
            this.text = text;
        }
    }

    /** The input buffer, the tokens of the text read from it, and the first error found there. */
    private static final class Input {
        private static final int SPACE = 0;
        private static final int DIGIT = 1;
        private static final int LETTER = 2;
        private static final int SIGN = 3;
        // Every number greater than all ranges is as good as any other.
        private static final int GREATER_THAN_ALL = MOST_NUMBER + 1;

        private final byte[] bytes = new byte[BUFFER_SIZE];
        private int length;
        private int textLength;
        private final Token[] tokens = new Token[BUFFER_SIZE + 1];
        private final int[] starts = new int[BUFFER_SIZE + 1];
        private final int[] numbers = new int[BUFFER_SIZE + 1];
        private int size;
        private int current;
        private int error;
        private int errorAt = NOTHING;

        boolean hasRoom(int more) {
            return length + more <= bytes.length;
        }

        void putWord(int word) {
            for (int shift = 24; shift >= 0; shift -= 8) {
                if (length < bytes.length) {
                    bytes[length] = (byte) (word >> shift);
                    length++;
                }
            }
        }

        /** Takes the first bytes as the text that is to be read, and empties the buffer. */
        void begin(int asked) {
            textLength = Math.max(0, Math.min(asked, length));
            size = 0;
            current = 0;
            error = 0;
            errorAt = NOTHING;
            int before = SPACE;
            for (int at = 0; at < textLength; at++) {
                int kind = kindAt(at);
                if (kind == SIGN || kind != SPACE && kind != before) {
                    addToken(at, kind);
                }
                before = kind;
            }
            put(Token.END, textLength, 0);
            length = 0;
        }

        private int kindAt(int at) {
            byte sign = bytes[at];
            if (sign == ' ') {
                return SPACE;
            }
            if (sign >= '0' && sign <= '9') {
                return DIGIT;
            }
            return sign >= 'a' && sign <= 'z' ? LETTER : SIGN;
        }

        private void addToken(int start, int kind) {
            int end = start + 1;
            while (kind != SIGN && end < textLength && kindAt(end) == kind) {
                end++;
            }
            if (kind == DIGIT) {
                put(Token.NUMBER, start, numberIn(start, end));
            } else {
                put(tokenIn(start, end), start, 0);
            }
        }

        private int numberIn(int start, int end) {
            int number = 0;
            for (int at = start; at < end; at++) {
                number = Math.min(number * 10 + (bytes[at] - '0'), GREATER_THAN_ALL);
            }
            return number;
        }

        private Token tokenIn(int start, int end) {
            for (Token token : Token.ALL) {
                if (isSpelled(token.text, start, end)) {
                    return token;
                }
            }
            return Token.UNKNOWN;
        }

        private boolean isSpelled(String text, int start, int end) {
            if (text.length() != end - start) {
                return false;
            }
            for (int i = 0; i < text.length(); i++) {
                if (bytes[start + i] != text.charAt(i)) {
                    return false;
                }
            }
            return true;
        }

        private void put(Token token, int start, int number) {
            if (size < tokens.length) {
                tokens[size] = token;
                starts[size] = start;
                numbers[size] = number;
                size++;
            }
        }

        Token token() {
            return tokens[current];
        }

        /** 0 if the token is no number. */
        int number() {
            return numbers[current];
        }

        boolean is(Token token) {
            return tokens[current] == token;
        }

        void advance() {
            if (current + 1 < size) {
                current++;
            }
        }

        boolean take(Token token) {
            if (tokens[current] != token) {
                return fail(SYNTAX_ERROR);
            }
            advance();
            return true;
        }

        /** Gives NOTHING if there is no number of this range. */
        int takeNumber(int least, int greatest) {
            int number = numbers[current];
            if (tokens[current] != Token.NUMBER) {
                fail(SYNTAX_ERROR);
                return NOTHING;
            }
            if (number < least || number > greatest) {
                fail(OUT_OF_RANGE);
                return NOTHING;
            }
            advance();
            return number;
        }

        /** Every reader stops at the first failure, so that no later one hides it. */
        boolean fail(int code) {
            error = code;
            errorAt = starts[current];
            return false;
        }
    }

    /** Reads a setup text; the game that it fills is of no use if it fails. */
    private static final class SetupReader {
        private static final int MOST_TRUST = 99;
        private static final int MOST_CALM = 9;
        private static final int MOST_SLY = 9;

        static boolean read(Input input, Game game) {
            if (!input.take(Token.SHELLS)) {
                return false;
            }
            int shells = input.takeNumber(FEWEST_SHELLS, MOST_SHELLS);
            if (shells < 0 || !input.take(Token.SEMICOLON)) {
                return false;
            }
            game.reset(shells);
            int seen = 0;
            for (int i = 0; i < BUFFER_SIZE && !input.is(Token.END); i++) {
                int bit = bitOfSingle(input.token());
                if ((seen & bit) != 0) {
                    return input.fail(SYNTAX_ERROR);
                }
                seen |= bit;
                if (!readStatement(input, game) || !input.take(Token.SEMICOLON)) {
                    return false;
                }
            }
            return true;
        }

        /** A bit of its own for each statement that may occur once; 0 for all others. */
        private static int bitOfSingle(Token word) {
            if (word == Token.BALL) {
                return 1;
            }
            if (word == Token.TRUST) {
                return 2;
            }
            if (word == Token.CALM) {
                return 4;
            }
            if (word == Token.SLY) {
                return 8;
            }
            if (word == Token.PURSE) {
                return 16;
            }
            return word == Token.ODDS ? 32 : 0;
        }

        private static boolean readStatement(Input input, Game game) {
            if (input.is(Token.SCRATCH)) {
                return readScratches(input, game.row);
            }
            if (input.is(Token.BLINK)) {
                return readBlink(input, game.blinks);
            }
            if (input.is(Token.ODDS)) {
                input.advance();
                game.formula.clear();
                return game.formula.readSum(input, 0);
            }
            return readSetting(input, game);
        }

        private static boolean readScratches(Input input, Row row) {
            input.advance();
            if (!readScratch(input, row)) {
                return false;
            }
            for (int i = 0; i < BUFFER_SIZE && input.is(Token.NUMBER); i++) {
                if (!readScratch(input, row)) {
                    return false;
                }
            }
            return true;
        }

        private static boolean readScratch(Input input, Row row) {
            if (input.is(Token.NUMBER) && row.isScratched(input.number())) {
                return input.fail(REPEATED);
            }
            int place = input.takeNumber(0, row.shells - 1);
            if (place < 0) {
                return false;
            }
            row.setScratched(place, true);
            return true;
        }

        private static boolean readBlink(Input input, Blinks blinks) {
            if (blinks.isFull()) {
                return input.fail(TOO_MANY);
            }
            input.advance();
            int first = input.takeNumber(0, MOST_NUMBER);
            if (first < 0) {
                return false;
            }
            int last = input.takeNumber(first, MOST_NUMBER);
            if (last < 0) {
                return false;
            }
            blinks.tell(first, last);
            return true;
        }

        private static boolean readSetting(Input input, Game game) {
            Token word = input.token();
            int greatest = greatestOf(word, game);
            if (greatest < 0) {
                return input.fail(SYNTAX_ERROR);
            }
            input.advance();
            int least = word == Token.TRUST || word == Token.CALM ? 1 : 0;
            int number = input.takeNumber(least, greatest);
            if (number < 0) {
                return false;
            }
            set(game, word, number);
            return true;
        }

        /** NOTHING for a word that begins no statement of one number. */
        private static int greatestOf(Token word, Game game) {
            if (word == Token.BALL) {
                return game.row.shells - 1;
            }
            if (word == Token.TRUST) {
                return MOST_TRUST;
            }
            if (word == Token.CALM) {
                return MOST_CALM;
            }
            if (word == Token.SLY) {
                return MOST_SLY;
            }
            return word == Token.PURSE ? MOST_NUMBER : NOTHING;
        }

        private static void set(Game game, Token word, int number) {
            if (word == Token.BALL) {
                game.row.ball = number;
                game.mind.know(number);
            } else if (word == Token.TRUST) {
                game.mind.trust = number;
            } else if (word == Token.CALM) {
                game.mind.calm = number;
            } else if (word == Token.SLY) {
                game.mind.sly = number;
            } else if (word == Token.PURSE) {
                game.purse = number;
            }
        }
    }

    /** The expression of the odds, its operands ahead of their operation. */
    private static final class Formula {
        private static final int MOST_DEPTH = 4;
        // Each sum that is open waits with two operands at most, and there are 5 of them.
        private static final int MOST_WAITING = 2 * (MOST_DEPTH + 1) + 1;
        private static final int BOUND = 1000000;
        private static final int MOST_ODDS = 9;
        // A part of 0 or more is a number.
        private static final int ADD = -1;
        private static final int SUBTRACT = -2;
        private static final int MULTIPLY = -3;
        private static final int DIVIDE = -4;
        private static final int SHELLS = -5;
        private static final int STEPS = -6;
        private static final int BLINKS = -7;
        private static final int CHANCE = -8;

        private final int[] parts = new int[BUFFER_SIZE];
        private int length;
        private final int[] waiting = new int[MOST_WAITING];

        void clear() {
            length = 0;
        }

        /** The odds without a statement: shells - 1. */
        void reset() {
            clear();
            put(SHELLS);
            put(1);
            put(SUBTRACT);
        }

        void copyFrom(Formula other) {
            length = other.length;
            System.arraycopy(other.parts, 0, parts, 0, length);
        }

        private void put(int part) {
            if (length < parts.length) {
                parts[length] = part;
                length++;
            }
        }

        private boolean readSum(Input input, int depth) {
            if (!readTerm(input, depth)) {
                return false;
            }
            for (int i = 0; i < BUFFER_SIZE && (input.is(Token.PLUS) || input.is(Token.MINUS)); i++) {
                int operation = input.is(Token.PLUS) ? ADD : SUBTRACT;
                input.advance();
                if (!readTerm(input, depth)) {
                    return false;
                }
                put(operation);
            }
            return true;
        }

        private boolean readTerm(Input input, int depth) {
            if (!readFactor(input, depth)) {
                return false;
            }
            for (int i = 0; i < BUFFER_SIZE && (input.is(Token.TIMES) || input.is(Token.OVER)); i++) {
                int operation = input.is(Token.TIMES) ? MULTIPLY : DIVIDE;
                input.advance();
                if (!readFactor(input, depth)) {
                    return false;
                }
                put(operation);
            }
            return true;
        }

        private boolean readFactor(Input input, int depth) {
            if (input.is(Token.OPEN)) {
                if (depth >= MOST_DEPTH) {
                    return input.fail(TOO_DEEP);
                }
                input.advance();
                return readSum(input, depth + 1) && input.take(Token.CLOSE);
            }
            int part = variableOf(input.token());
            if (part == 0) {
                part = input.takeNumber(0, MOST_NUMBER);
                if (part < 0) {
                    return false;
                }
            } else {
                input.advance();
            }
            put(part);
            return true;
        }

        /** 0 for a token that is no variable. */
        private static int variableOf(Token token) {
            if (token == Token.SHELLS) {
                return SHELLS;
            }
            if (token == Token.STEPS) {
                return STEPS;
            }
            if (token == Token.BLINKS) {
                return BLINKS;
            }
            return token == Token.CHANCE ? CHANCE : 0;
        }

        int value(Game game, int place) {
            int depth = 0;
            for (int i = 0; i < length; i++) {
                int part = parts[i];
                boolean isOperation = part <= ADD && part >= DIVIDE;
                if (isOperation && depth >= 2) {
                    depth--;
                    waiting[depth - 1] = result(part, waiting[depth - 1], waiting[depth]);
                } else if (!isOperation && depth < waiting.length) {
                    waiting[depth] = part >= 0 ? part : variable(part, game, place);
                    depth++;
                }
            }
            return Math.max(0, Math.min(waiting[0], MOST_ODDS));
        }

        private static int result(int operation, int left, int right) {
            long exact;
            if (operation == ADD) {
                exact = (long) left + right;
            } else if (operation == SUBTRACT) {
                exact = (long) left - right;
            } else if (operation == MULTIPLY) {
                exact = (long) left * right;
            } else {
                exact = right == 0 ? 0 : left / right;
            }
            return (int) Math.max(-BOUND, Math.min(exact, BOUND));
        }

        private static int variable(int part, Game game, int place) {
            if (part == SHELLS) {
                return game.row.shells;
            }
            if (part == STEPS) {
                return game.steps;
            }
            if (part == BLINKS) {
                return game.blinked;
            }
            int sum = game.mind.sum();
            return sum > 0 ? game.mind.belief[place] * 100 / sum : 0;
        }
    }

    /** The blinks that are told. */
    private static final class Blinks {
        private static final int MOST_BLINKS = 8;

        private final int[] first = new int[MOST_BLINKS];
        private final int[] last = new int[MOST_BLINKS];
        private int count;

        void clear() {
            count = 0;
        }

        void copyFrom(Blinks other) {
            count = other.count;
            System.arraycopy(other.first, 0, first, 0, count);
            System.arraycopy(other.last, 0, last, 0, count);
        }

        boolean isFull() {
            return count >= MOST_BLINKS;
        }

        void tell(int firstStep, int lastStep) {
            if (count < first.length) {
                first[count] = firstStep;
                last[count] = lastStep;
                count++;
            }
        }

        boolean has(int step) {
            for (int i = 0; i < count; i++) {
                if (step >= first[i] && step <= last[i]) {
                    return true;
                }
            }
            return false;
        }
    }

    /** The shells by their places, and the ball; in the hand its place is the number of shells. */
    private static final class Row {
        private int shells;
        private int ball;
        // A bit for each place whose shell is scratched.
        private int scratches;
        private final int[] shellAt = new int[MOST_SHELLS];
        private final int[] moves = new int[MOST_SHELLS];

        void reset(int newShells) {
            shells = newShells;
            ball = 0;
            scratches = 0;
            for (int place = 0; place < shellAt.length; place++) {
                shellAt[place] = place;
                moves[place] = 0;
            }
        }

        void copyFrom(Row other) {
            shells = other.shells;
            ball = other.ball;
            scratches = other.scratches;
            System.arraycopy(other.shellAt, 0, shellAt, 0, MOST_SHELLS);
            System.arraycopy(other.moves, 0, moves, 0, MOST_SHELLS);
        }

        boolean hasPlace(int place) {
            return place >= 0 && place < shells;
        }

        boolean hasTwoPlaces(int a, int b) {
            return a != b && hasPlace(a) && hasPlace(b);
        }

        boolean isScratched(int place) {
            return hasPlace(place) && (scratches >> place & 1) == 1;
        }

        void setScratched(int place, boolean isOn) {
            if (hasPlace(place)) {
                scratches = isOn ? scratches | 1 << place : scratches & ~(1 << place);
            }
        }

        int number(int place, int what) {
            switch (what) {
                case 0:
                    return shellAt[place];
                case 1:
                    return isScratched(place) ? 1 : 0;
                case 2:
                    return moves[place];
                default:
                    return ball == place ? 1 : 0;
            }
        }

        void exchange(int a, int b) {
            int shellOfA = shellAt[a];
            shellAt[a] = shellAt[b];
            shellAt[b] = shellOfA;
            int movesOfA = moves[a];
            moves[a] = moves[b] + 1;
            moves[b] = movesOfA + 1;
            boolean wasScratched = isScratched(a);
            setScratched(a, isScratched(b));
            setScratched(b, wasScratched);
            ball = placeBehind(ball, a, b);
        }

        /** Where a ball is behind a swap. */
        static int placeBehind(int place, int a, int b) {
            if (place == a) {
                return b;
            }
            return place == b ? a : place;
        }

        /** A round of shells that stand at one another's first places needs a swap less than it has shells. */
        int swapsToFirst() {
            int visited = 0;
            int rounds = 0;
            for (int start = 0; start < shells; start++) {
                if ((visited >> start & 1) == 0) {
                    rounds++;
                }
                int place = start;
                for (int i = 0; i < shells && (visited >> place & 1) == 0; i++) {
                    visited |= 1 << place;
                    place = shellAt[place];
                }
            }
            return shells - rounds;
        }
    }

    /** What the watcher believes of each place, the hand as the last one, and how the watcher thinks. */
    private static final class Mind {
        private static final int MOST_BELIEF = 1000000;
        private static final int WHOLE_TRUST = 100;

        private final int[] belief = new int[MOST_SHELLS + 1];
        private int places;
        private int trust;
        private int calm;
        private int sly;

        void reset(int shells) {
            places = shells + 1;
            trust = 80;
            calm = 1;
            sly = 0;
            know(0);
        }

        void copyFrom(Mind other) {
            System.arraycopy(other.belief, 0, belief, 0, belief.length);
            places = other.places;
            trust = other.trust;
            calm = other.calm;
            sly = other.sly;
        }

        void know(int place) {
            Arrays.fill(belief, 0);
            belief[place] = 1;
        }

        void ruleOut(int place) {
            belief[place] = 0;
            divideByCommonDivisor();
        }

        int sum() {
            int sum = 0;
            for (int at = 0; at < places; at++) {
                sum += belief[at];
            }
            return sum;
        }

        int greatest() {
            int greatest = 0;
            for (int at = 0; at < places; at++) {
                greatest = Math.max(greatest, belief[at]);
            }
            return greatest;
        }

        int countBelieved() {
            int count = 0;
            for (int at = 0; at < places; at++) {
                if (belief[at] > 0) {
                    count++;
                }
            }
            return count;
        }

        int likeliestShell() {
            int likeliest = 0;
            for (int place = 1; place < places - 1; place++) {
                if (belief[place] > belief[likeliest]) {
                    likeliest = place;
                }
            }
            return likeliest;
        }

        /** NOTHING if not so many places are believed in. */
        int placeOfRank(int rank) {
            for (int at = 0; at < places; at++) {
                if (belief[at] > 0 && countAheadOf(at) == rank) {
                    return at;
                }
            }
            return NOTHING;
        }

        private int countAheadOf(int place) {
            int count = 0;
            for (int at = 0; at < places; at++) {
                if (belief[at] > belief[place] || belief[at] == belief[place] && at < place) {
                    count++;
                }
            }
            return count;
        }

        /** The watcher thinks of a swap or a feint; row is as it was ahead of it. */
        void followMove(Row row, boolean isSwap, int a, int b, boolean isBlink) {
            boolean isBetrayed = row.isScratched(a) != row.isScratched(b);
            if (isBetrayed && isSwap) {
                // At a blink, too: no other swap brings the scratched shells to these places.
                exchange(a, b);
            } else if (isBlink) {
                wonder(row);
            } else if (!isBetrayed) {
                mix(a, b);
            }
            settle();
        }

        /** The watcher thinks of a step that moves no shell and looks like none. */
        void followStill(Row row, boolean isBlink) {
            if (isBlink) {
                wonder(row);
            }
            settle();
        }

        private void exchange(int a, int b) {
            int beliefOfA = belief[a];
            belief[a] = belief[b];
            belief[b] = beliefOfA;
        }

        private void mix(int a, int b) {
            int beliefOfA = belief[a];
            int beliefOfB = belief[b];
            for (int at = 0; at < places; at++) {
                belief[at] *= WHOLE_TRUST;
            }
            belief[a] = beliefOfA * (WHOLE_TRUST - trust) + beliefOfB * trust;
            belief[b] = beliefOfB * (WHOLE_TRUST - trust) + beliefOfA * trust;
        }

        /**
         * A blink behind which scratched shells are where they were. Just the swaps of shells that
         * are both scratched or both smooth count, so what all that could have been leads to a place
         * is told by the sums over its like. No sum reaches 2000000000: all weights are 181 at most.
         */
        private void wonder(Row row) {
            int shells = places - 1;
            int scratchedShells = 0;
            int scratchedSum = 0;
            int sum = 0;
            for (int place = 0; place < shells; place++) {
                sum += belief[place];
                if (row.isScratched(place)) {
                    scratchedShells++;
                    scratchedSum += belief[place];
                }
            }
            int smoothShells = shells - scratchedShells;
            int swaps = pairsOf(scratchedShells) + pairsOf(smoothShells);
            int inHand = belief[shells];
            for (int place = 0; place < shells; place++) {
                boolean isScratched = row.isScratched(place);
                int others = (isScratched ? scratchedShells : smoothShells) - 1;
                int otherSum = (isScratched ? scratchedSum : sum - scratchedSum) - belief[place];
                // Swaps of other places, nothing, steals from other places and all plants.
                int stays = swaps - others + calm + sly * (shells - 1) + sly * shells;
                belief[place] = belief[place] * stays + otherSum + inHand * sly;
            }
            belief[shells] = inHand * (swaps + calm + sly * shells) + sum * sly;
        }

        private static int pairsOf(int shells) {
            return shells * (shells - 1) / 2;
        }

        private void settle() {
            divideByCommonDivisor();
            for (int i = 0; i < 32 && greatest() > MOST_BELIEF; i++) {
                halve();
            }
        }

        private void halve() {
            for (int at = 0; at < places; at++) {
                belief[at] = (belief[at] + 1) / 2;
            }
        }

        private void divideByCommonDivisor() {
            int divisor = 0;
            for (int at = 0; at < places; at++) {
                divisor = commonDivisor(belief[at], divisor);
            }
            for (int at = 0; at < places && divisor > 1; at++) {
                belief[at] /= divisor;
            }
        }

        private static int commonDivisor(int a, int b) {
            int left = a;
            int right = b;
            for (int i = 0; i < 64 && right != 0; i++) {
                int rest = left % right;
                left = right;
                right = rest;
            }
            return left;
        }
    }

    /** All that a change may change. */
    private static final class Game {
        private static final int FIRST_PURSE = 100;
        private static final int MOST_PURSE = 1000000;

        private final Row row = new Row();
        private final Mind mind = new Mind();
        private final Blinks blinks = new Blinks();
        private final Formula formula = new Formula();
        private int steps;
        private int blinked;
        private int purse;
        private int won;
        private int lost;

        Game() {
            reset(FIRST_SHELLS);
        }

        void reset(int shells) {
            row.reset(shells);
            mind.reset(shells);
            blinks.clear();
            formula.reset();
            steps = 0;
            blinked = 0;
            purse = FIRST_PURSE;
            won = 0;
            lost = 0;
        }

        void copyFrom(Game other) {
            row.copyFrom(other.row);
            mind.copyFrom(other.mind);
            blinks.copyFrom(other.blinks);
            formula.copyFrom(other.formula);
            steps = other.steps;
            blinked = other.blinked;
            purse = other.purse;
            won = other.won;
            lost = other.lost;
        }

        int number(int what) {
            switch (what) {
                case 0:
                    return row.shells;
                case 1:
                    return steps;
                case 2:
                    return row.ball;
                case 3:
                    return blinked;
                case 4:
                    return mind.trust;
                case 5:
                    return mind.calm;
                case 6:
                    return mind.sly;
                case 7:
                    return purse;
                case 8:
                    return won;
                case 9:
                    return lost;
                case 10:
                    return mind.sum();
                case 11:
                    return mind.countBelieved();
                default:
                    return blinks.count;
            }
        }

        boolean isBlinkNext() {
            return blinks.has(steps);
        }

        boolean canSteal(int place) {
            return isBlinkNext() && mind.sly > 0 && row.ball == place;
        }

        boolean canPlant() {
            return isBlinkNext() && mind.sly > 0 && row.ball == row.shells;
        }

        /** Makes a swap or a feint; tells whether the watcher blinked. */
        boolean makeMove(boolean isSwap, int a, int b) {
            boolean isBlink = isBlinkNext();
            mind.followMove(row, isSwap, a, b, isBlink);
            if (isSwap) {
                row.exchange(a, b);
            }
            countStep(isBlink);
            return isBlink;
        }

        /**
         * Makes a rest, a steal or a plant, behind which the ball is at this place; tells whether the
         * watcher blinked.
         */
        boolean makeStill(int ballBehind) {
            boolean isBlink = isBlinkNext();
            mind.followStill(row, isBlink);
            row.ball = ballBehind;
            countStep(isBlink);
            return isBlink;
        }

        private void countStep(boolean isBlink) {
            steps++;
            if (isBlink) {
                blinked++;
            }
        }

        boolean lookUnder(int place) {
            boolean isThere = row.ball == place;
            if (isThere) {
                mind.know(place);
            } else {
                mind.ruleOut(place);
            }
            return isThere;
        }

        int playBet(int place, int stake) {
            int odds = formula.value(this, place);
            if (lookUnder(place)) {
                purse = Math.min(purse + stake * odds, MOST_PURSE);
                won++;
            } else {
                purse -= stake;
                lost++;
            }
            return purse;
        }
    }

    /** The swap or feint that fools the watcher most. */
    private static final class Trick {
        private final Mind trial = new Mind();
        private boolean isSwap;
        private int a;
        private int b;
        private int belief;
        private int sum;

        void find(Game game) {
            // As good as a chance greater than all.
            belief = 1;
            sum = 0;
            boolean isBlink = game.isBlinkNext();
            tryAll(game, true, isBlink);
            tryAll(game, false, isBlink);
        }

        private void tryAll(Game game, boolean asSwap, boolean isBlink) {
            int shells = game.row.shells;
            for (int first = 0; first < shells; first++) {
                for (int second = first + 1; second < shells; second++) {
                    trial.copyFrom(game.mind);
                    trial.followMove(game.row, asSwap, first, second, isBlink);
                    int ball = asSwap ? Row.placeBehind(game.row.ball, first, second) : game.row.ball;
                    takeIfLess(asSwap, first, second, trial.belief[ball]);
                }
            }
        }

        private void takeIfLess(boolean asSwap, int first, int second, int trialBelief) {
            int trialSum = trial.sum();
            if ((long) trialBelief * sum < (long) belief * trialSum) {
                isSwap = asSwap;
                a = first;
                b = second;
                belief = trialBelief;
                sum = trialSum;
            }
        }

        int number(int what) {
            switch (what) {
                case 0:
                    return isSwap ? 0 : 1;
                case 1:
                    return a;
                case 2:
                    return b;
                case 3:
                    return belief;
                default:
                    return sum;
            }
        }
    }

    /** The commands of a script in the order of its text; a repeat is ahead of those that it repeats. */
    private static final class Script {
        private static final int MOST_COMMANDS = 60;
        private static final int MOST_DONE = 200;
        private static final int MOST_DEPTH = 3;
        private static final int MOST_TIMES = 20;

        private final Token[] words = new Token[MOST_COMMANDS];
        private final int[] firsts = new int[MOST_COMMANDS];
        private final int[] seconds = new int[MOST_COMMANDS];
        // For a repeat, the index behind the last command that it repeats.
        private final int[] ends = new int[MOST_COMMANDS];
        private int size;
        private int done;

        void clear() {
            size = 0;
            done = 0;
        }

        private boolean readCommands(Input input, int depth) {
            for (int i = 0; i < BUFFER_SIZE && numbersOf(input.token()) >= 0; i++) {
                if (size >= MOST_COMMANDS) {
                    return input.fail(TOO_MANY);
                }
                boolean isRead = input.is(Token.REPEAT) ? readRepeat(input, depth) : readCommand(input);
                if (!isRead || !input.take(Token.SEMICOLON)) {
                    return false;
                }
            }
            return true;
        }

        /** How many numbers a command has; NOTHING for a token that begins no command. */
        private static int numbersOf(Token token) {
            if (token == Token.SWAP || token == Token.FEINT) {
                return 2;
            }
            if (token == Token.STEAL || token == Token.PLANT || token == Token.PEEK || token == Token.REPEAT) {
                return 1;
            }
            return token == Token.REST ? 0 : NOTHING;
        }

        private boolean readCommand(Input input) {
            Token word = input.token();
            int numbers = numbersOf(word);
            input.advance();
            int first = numbers > 0 ? input.takeNumber(0, MOST_NUMBER) : 0;
            if (first < 0) {
                return false;
            }
            int second = numbers > 1 ? input.takeNumber(0, MOST_NUMBER) : 0;
            if (second < 0) {
                return false;
            }
            put(word, first, second);
            return true;
        }

        private boolean readRepeat(Input input, int depth) {
            if (depth >= MOST_DEPTH) {
                return input.fail(TOO_DEEP);
            }
            input.advance();
            int times = input.takeNumber(1, MOST_TIMES);
            if (times < 0) {
                return false;
            }
            int at = size;
            put(Token.REPEAT, times, 0);
            if (!input.take(Token.OPEN) || !readCommands(input, depth + 1) || !input.take(Token.CLOSE)) {
                return false;
            }
            ends[at] = size;
            return true;
        }

        private void put(Token word, int first, int second) {
            if (size < words.length) {
                words[size] = word;
                firsts[size] = first;
                seconds[size] = second;
                size++;
            }
        }

        /** Gives false if the script ends early. */
        private boolean performRange(Game game, int from, int to, int depth) {
            int at = from;
            for (int i = 0; i < MOST_COMMANDS && at < to; i++) {
                boolean isRepeat = words[at] == Token.REPEAT;
                boolean isDone = isRepeat ? performRepeat(game, at, depth) : performOne(game, at);
                if (!isDone) {
                    return false;
                }
                at = isRepeat ? ends[at] : at + 1;
            }
            return true;
        }

        private boolean performRepeat(Game game, int at, int depth) {
            if (depth >= MOST_DEPTH) {
                return false;
            }
            for (int time = 0; time < firsts[at]; time++) {
                int doneBefore = done;
                if (!performRange(game, at + 1, ends[at], depth + 1)) {
                    return false;
                }
                if (done == doneBefore) {
                    // Nothing but empty repeats in it: once more would again do nothing.
                    return true;
                }
            }
            return true;
        }

        /** Gives false, and does nothing, if the script ends ahead of this command. */
        private boolean performOne(Game game, int at) {
            Token word = words[at];
            int first = firsts[at];
            int second = seconds[at];
            if (done >= MOST_DONE || !isAllowed(game, word, first, second)) {
                return false;
            }
            done++;
            if (word == Token.SWAP || word == Token.FEINT) {
                game.makeMove(word == Token.SWAP, first, second);
            } else if (word == Token.REST) {
                game.makeStill(game.row.ball);
            } else if (word == Token.STEAL) {
                game.makeStill(game.row.shells);
            } else if (word == Token.PLANT) {
                game.makeStill(first);
            } else {
                game.lookUnder(first);
            }
            return true;
        }

        /** Whether the method of the command's name would throw nothing. */
        private static boolean isAllowed(Game game, Token word, int first, int second) {
            if (word == Token.SWAP || word == Token.FEINT) {
                return game.row.hasTwoPlaces(first, second);
            }
            if (word == Token.REST) {
                return true;
            }
            if (!game.row.hasPlace(first)) {
                return false;
            }
            if (word == Token.STEAL) {
                return game.canSteal(first);
            }
            return word == Token.PEEK || game.canPlant();
        }
    }
}
