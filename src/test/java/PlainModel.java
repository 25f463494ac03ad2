import java.math.BigInteger;
import java.util.ArrayDeque;
import java.util.ArrayList;
import java.util.Arrays;
import java.util.Deque;
import java.util.HashSet;
import java.util.List;
import java.util.NoSuchElementException;
import java.util.Set;
import java.util.TreeSet;
import java.util.function.IntUnaryOperator;
import java.util.function.ToLongFunction;

/** The document's words taken one by one, without a thought of speed or room: what ShellWatch is compared with. */
final class PlainModel {
    /** All that undo brings back; the ball is told by its shell, -1 in the hand. */
    private static final class State {
        List<Integer> row = new ArrayList<>();
        Set<Integer> scratchedShells = new TreeSet<>();
        int[] moved = new int[8];
        int ballShell = 0;
        BigInteger[] belief;
        int trust = 80;
        int calm = 1;
        int sly = 0;
        int purse = 100;
        int won;
        int lost;
        List<Boolean> blinkedAt = new ArrayList<>();
        List<int[]> blinks = new ArrayList<>();
        ToLongFunction<long[]> odds = v -> v[0] - 1;

        State(int shells) {
            for (int i = 0; i < shells; i++) {
                row.add(i);
            }
            believeIn(0);
        }

        State(State other) {
            row = new ArrayList<>(other.row);
            scratchedShells = new TreeSet<>(other.scratchedShells);
            moved = other.moved.clone();
            ballShell = other.ballShell;
            belief = other.belief.clone();
            trust = other.trust;
            calm = other.calm;
            sly = other.sly;
            purse = other.purse;
            won = other.won;
            lost = other.lost;
            blinkedAt = new ArrayList<>(other.blinkedAt);
            blinks = new ArrayList<>(other.blinks);
            odds = other.odds;
        }

        void believeIn(int place) {
            belief = new BigInteger[row.size() + 1];
            Arrays.fill(belief, BigInteger.ZERO);
            belief[place] = BigInteger.ONE;
        }

        int ballPlace() {
            return ballShell < 0 ? row.size() : row.indexOf(ballShell);
        }

        Set<Integer> scratchedPlaces() {
            Set<Integer> places = new HashSet<>();
            for (int shell : scratchedShells) {
                places.add(row.indexOf(shell));
            }
            return places;
        }

        boolean blinksAt(int step) {
            return blinks.stream().anyMatch(b -> b[0] <= step && step <= b[1]);
        }

        boolean blinksNow() {
            return blinksAt(blinkedAt.size());
        }

        BigInteger sum() {
            return Arrays.stream(belief).reduce(BigInteger.ZERO, BigInteger::add);
        }

        BigInteger greatest() {
            return Arrays.stream(belief).reduce(BigInteger.ZERO, BigInteger::max);
        }

        void divide() {
            BigInteger divisor = Arrays.stream(belief).reduce(BigInteger.ZERO, BigInteger::gcd);
            for (int i = 0; i < belief.length; i++) {
                belief[i] = belief[i].divide(divisor);
            }
        }

        void endStep(boolean blinked) {
            divide();
            while (greatest().compareTo(BigInteger.valueOf(1000000)) > 0) {
                for (int i = 0; i < belief.length; i++) {
                    belief[i] = belief[i].add(BigInteger.ONE).divide(BigInteger.TWO);
                }
            }
            blinkedAt.add(blinked);
        }

        /** places: of a swap or feint; the kinds are swap, feint, rest, steal, plant. */
        boolean step(String kind, int a, int b) {
            boolean blinked = blinksNow();
            List<Integer> rowBefore = new ArrayList<>(row);
            Set<Integer> scratchedBefore = scratchedPlaces();
            if (kind.equals("swap")) {
                int shellOfA = row.get(a);
                row.set(a, row.get(b));
                row.set(b, shellOfA);
                moved[row.get(a)]++;
                moved[row.get(b)]++;
            } else if (kind.equals("steal")) {
                ballShell = -1;
            } else if (kind.equals("plant")) {
                ballShell = row.get(a);
            }
            if (blinked) {
                thinkOfAll(scratchedBefore, scratchedPlaces());
            } else if (kind.equals("swap") || kind.equals("feint")) {
                watch(kind.equals("swap"), rowBefore, a, b);
            }
            endStep(blinked);
            return blinked;
        }

        private void watch(boolean isSwap, List<Integer> rowBefore, int a, int b) {
            boolean scratchOfA = scratchedShells.contains(rowBefore.get(a));
            boolean scratchOfB = scratchedShells.contains(rowBefore.get(b));
            BigInteger[] old = belief.clone();
            if (scratchOfA ^ scratchOfB) {
                if (isSwap) {
                    belief[a] = old[b];
                    belief[b] = old[a];
                }
                return;
            }
            BigInteger yes = BigInteger.valueOf(trust);
            BigInteger no = BigInteger.valueOf(100 - trust);
            for (int i = 0; i < belief.length; i++) {
                belief[i] = old[i].multiply(BigInteger.valueOf(100));
            }
            belief[a] = old[a].multiply(no).add(old[b].multiply(yes));
            belief[b] = old[b].multiply(no).add(old[a].multiply(yes));
        }

        private void thinkOfAll(Set<Integer> before, Set<Integer> seen) {
            int shells = row.size();
            BigInteger[] next = new BigInteger[shells + 1];
            Arrays.fill(next, BigInteger.ZERO);
            for (int i = 0; i < shells; i++) {
                for (int j = i + 1; j < shells; j++) {
                    int x = i;
                    int y = j;
                    think(next, before, seen, 1, p -> p == x ? y : p == y ? x : p, true);
                }
            }
            think(next, before, seen, calm, p -> p, true);
            for (int i = 0; i < shells; i++) {
                int x = i;
                think(next, before, seen, sly, p -> p == x ? shells : p, false);
                think(next, before, seen, sly, p -> p == shells ? x : p, false);
            }
            belief = next;
        }

        private void think(BigInteger[] next, Set<Integer> before, Set<Integer> seen, int weight,
                IntUnaryOperator lead, boolean movesShells) {
            Set<Integer> would = new HashSet<>();
            for (int place : before) {
                would.add(movesShells ? lead.applyAsInt(place) : place);
            }
            if (!would.equals(seen)) {
                return;
            }
            for (int i = 0; i < next.length; i++) {
                int to = lead.applyAsInt(i);
                next[to] = next[to].add(belief[i].multiply(BigInteger.valueOf(weight)));
            }
        }

        boolean peek(int place) {
            if (ballPlace() == place) {
                believeIn(place);
                return true;
            }
            belief[place] = BigInteger.ZERO;
            divide();
            return false;
        }

        int guess() {
            int best = 0;
            for (int i = row.size() - 1; i >= 0; i--) {
                if (belief[i].compareTo(belief[best]) >= 0) {
                    best = i;
                }
            }
            return best;
        }

        /** kind (0 swap, 1 feint), a, b, belief, sum */
        int[] fool() {
            int[] best = null;
            for (int kind = 0; kind <= 1; kind++) {
                for (int a = 0; a < row.size(); a++) {
                    for (int b = a + 1; b < row.size(); b++) {
                        State then = new State(this);
                        then.step(kind == 0 ? "swap" : "feint", a, b);
                        int mine = then.belief[then.ballPlace()].intValueExact();
                        int sum = then.sum().intValueExact();
                        if (best == null || BigInteger.valueOf(mine).multiply(BigInteger.valueOf(best[4]))
                                .compareTo(BigInteger.valueOf(best[3]).multiply(BigInteger.valueOf(sum))) < 0) {
                            best = new int[] {kind, a, b, mine, sum};
                        }
                    }
                }
            }
            return best;
        }
    }

    /** The first error of a text. */
    private static final class TextError extends RuntimeException {
        private static final long serialVersionUID = 1;
        final int code;
        final int offset;

        TextError(int code, int offset) {
            this.code = code;
            this.offset = offset;
        }
    }

    private interface Command {
        void perform();
    }

    /** Ends a script. */
    private static final class ScriptEnd extends RuntimeException {
        private static final long serialVersionUID = 1;
    }

    private State now = new State(3);
    private final Deque<State> past = new ArrayDeque<>();
    private final StringBuilder buffer = new StringBuilder();
    private int errorOffset = -1;
    private String text;
    private int pos;
    private int commands;
    private int done;

    int append(int... words) {
        if (buffer.length() + 20 > 500) {
            return -1;
        }
        for (int word : words) {
            for (int i = 3; i >= 0; i--) {
                buffer.append((char) (word >>> 8 * i & 255));
            }
        }
        return buffer.length();
    }

    private void take(int length) {
        if (length < 0 || length > buffer.length()) {
            throw new IllegalArgumentException();
        }
        text = buffer.substring(0, length);
        buffer.setLength(0);
        pos = 0;
        errorOffset = -1;
    }

    private void change() {
        past.addLast(new State(now));
        if (past.size() > 8) {
            past.removeFirst();
        }
    }

    int load(int length) {
        take(length);
        State next;
        try {
            next = readSetup();
        } catch (TextError e) {
            errorOffset = e.offset;
            return e.code;
        }
        change();
        now = next;
        return now.row.size();
    }

    int run(int length) {
        take(length);
        List<Command> script;
        commands = 0;
        done = 0;
        try {
            script = readScript(0);
            if (!token().isEmpty()) {
                throw new TextError(-2, pos);
            }
        } catch (TextError e) {
            errorOffset = e.offset;
            return e.code;
        }
        change();
        try {
            script.forEach(Command::perform);
        } catch (ScriptEnd e) {
            return done;
        }
        return done;
    }

    // ---- texts

    /** Goes to the next token, and gives it without going behind it; an empty one at the end. */
    private String token() {
        while (pos < text.length() && text.charAt(pos) == ' ') {
            pos++;
        }
        String left = text.substring(pos);
        if (left.isEmpty()) {
            return "";
        }
        String run = left.replaceFirst("(?s)^([0-9]+|[a-z]+|.).*$", "$1");
        return run;
    }

    private void expect(String due) {
        if (!token().equals(due)) {
            throw new TextError(-2, pos);
        }
        pos += due.length();
    }

    private boolean isNumber() {
        return token().matches("[0-9]+");
    }

    private int number(int least, int most) {
        String run = token();
        if (!isNumber()) {
            throw new TextError(-2, pos);
        }
        BigInteger value = new BigInteger(run);
        if (value.compareTo(BigInteger.valueOf(least)) < 0 || value.compareTo(BigInteger.valueOf(most)) > 0) {
            throw new TextError(-3, pos);
        }
        pos += run.length();
        return value.intValueExact();
    }

    private State readSetup() {
        expect("shells");
        State next = new State(number(2, 8));
        expect(";");
        Set<String> seen = new HashSet<>();
        while (!token().isEmpty()) {
            String word = token();
            if (List.of("ball", "trust", "calm", "sly", "purse", "odds").contains(word) && !seen.add(word)) {
                throw new TextError(-2, pos);
            }
            if (word.equals("blink") && next.blinks.size() == 8) {
                throw new TextError(-5, pos);
            }
            readStatement(next, word);
            expect(";");
        }
        return next;
    }

    private void readStatement(State next, String word) {
        int shells = next.row.size();
        int start = pos;
        pos += word.length();
        switch (word) {
            case "ball" -> {
                next.ballShell = number(0, shells - 1);
                next.believeIn(next.ballShell);
            }
            case "trust" -> next.trust = number(1, 99);
            case "calm" -> next.calm = number(1, 9);
            case "sly" -> next.sly = number(0, 9);
            case "purse" -> next.purse = number(0, 9999);
            case "blink" -> {
                int first = number(0, 9999);
                next.blinks.add(new int[] {first, number(first, 9999)});
            }
            case "odds" -> next.odds = sum(0);
            case "scratch" -> {
                do {
                    token();
                    int at = pos;
                    if (!next.scratchedShells.add(number(0, shells - 1))) {
                        throw new TextError(-4, at);
                    }
                } while (isNumber());
            }
            default -> throw new TextError(-2, start);
        }
    }

    private static long limit(long value) {
        return Math.max(-1000000, Math.min(1000000, value));
    }

    private ToLongFunction<long[]> sum(int depth) {
        ToLongFunction<long[]> left = term(depth);
        while (token().equals("+") || token().equals("-")) {
            boolean plus = token().equals("+");
            pos++;
            ToLongFunction<long[]> first = left;
            ToLongFunction<long[]> second = term(depth);
            left = v -> limit(plus ? first.applyAsLong(v) + second.applyAsLong(v)
                    : first.applyAsLong(v) - second.applyAsLong(v));
        }
        return left;
    }

    private ToLongFunction<long[]> term(int depth) {
        ToLongFunction<long[]> left = factor(depth);
        while (token().equals("*") || token().equals("/")) {
            boolean times = token().equals("*");
            pos++;
            ToLongFunction<long[]> first = left;
            ToLongFunction<long[]> second = factor(depth);
            left = v -> {
                long x = first.applyAsLong(v);
                long y = second.applyAsLong(v);
                return limit(times ? x * y : y == 0 ? 0 : x / y);
            };
        }
        return left;
    }

    private ToLongFunction<long[]> factor(int depth) {
        String word = token();
        if (word.equals("(")) {
            if (depth == 4) {
                throw new TextError(-6, pos);
            }
            pos++;
            ToLongFunction<long[]> inner = sum(depth + 1);
            expect(")");
            return inner;
        }
        int which = List.of("shells", "steps", "blinks", "chance").indexOf(word);
        if (which >= 0) {
            pos += word.length();
            return v -> v[which];
        }
        int value = number(0, 9999);
        return v -> value;
    }

    private List<Command> readScript(int depth) {
        List<Command> all = new ArrayList<>();
        while (List.of("swap", "feint", "rest", "steal", "plant", "peek", "repeat").contains(token())) {
            String word = token();
            commands++;
            if (commands > 60) {
                throw new TextError(-5, pos);
            }
            if (word.equals("repeat") && depth == 3) {
                throw new TextError(-6, pos);
            }
            pos += word.length();
            all.add(word.equals("repeat") ? readRepeat(depth) : readCommand(word));
            expect(";");
        }
        return all;
    }

    private Command readRepeat(int depth) {
        int times = number(1, 20);
        expect("(");
        List<Command> inner = readScript(depth + 1);
        expect(")");
        return () -> {
            for (int i = 0; i < times; i++) {
                inner.forEach(Command::perform);
            }
        };
    }

    private Command readCommand(String word) {
        int a = word.equals("rest") ? 0 : number(0, 9999);
        int b = word.equals("swap") || word.equals("feint") ? number(0, 9999) : 0;
        return () -> {
            if (done == 200) {
                throw new ScriptEnd();
            }
            try {
                switch (word) {
                    case "peek" -> {
                        checkPlace(a);
                        now.peek(a);
                    }
                    case "rest" -> now.step("rest", 0, 0);
                    case "steal", "plant" -> {
                        checkHand(word, a);
                        now.step(word, a, a);
                    }
                    default -> {
                        checkMove(a, b);
                        now.step(word, a, b);
                    }
                }
            } catch (IndexOutOfBoundsException | IllegalArgumentException | IllegalStateException e) {
                throw new ScriptEnd();
            }
            done++;
        };
    }

    // ---- questions

    int errorOffset() {
        return errorOffset;
    }

    int state(int what) {
        State s = now;
        int blinked = (int) s.blinkedAt.stream().filter(b -> b).count();
        int believed = (int) Arrays.stream(s.belief).filter(b -> b.signum() > 0).count();
        int[] all = {s.row.size(), s.blinkedAt.size(), s.ballPlace(), blinked, s.trust, s.calm, s.sly, s.purse, s.won,
            s.lost, s.sum().intValueExact(), believed, s.blinks.size()};
        if (what < 0 || what >= all.length) {
            throw new IllegalArgumentException();
        }
        return all[what];
    }

    int shell(int place, int what) {
        checkPlace(place);
        int shell = now.row.get(place);
        int[] all = {shell, now.scratchedShells.contains(shell) ? 1 : 0, now.moved[shell],
            now.ballShell == shell ? 1 : 0};
        if (what < 0 || what >= all.length) {
            throw new IllegalArgumentException();
        }
        return all[what];
    }

    int belief(int at) {
        if (at < 0 || at > now.row.size()) {
            throw new IllegalArgumentException();
        }
        return now.belief[at].intValueExact();
    }

    double chance(int at) {
        return (double) belief(at) / (double) state(10);
    }

    float doubt() {
        return 1f - (float) now.greatest().intValueExact() / (float) state(10);
    }

    int guess() {
        return now.guess();
    }

    boolean blinks(int step) {
        if (step < 0 || step > 20000) {
            throw new IllegalArgumentException();
        }
        return now.blinksAt(step);
    }

    int odds(int place) {
        checkPlace(place);
        long chance = belief(place) * 100L / state(10);
        long value = now.odds.applyAsLong(new long[] {now.row.size(), state(1), state(3), chance});
        return (int) Math.max(0, Math.min(9, value));
    }

    /** Brings the shells home one after the other. */
    int fewest() {
        List<Integer> row = new ArrayList<>(now.row);
        int swaps = 0;
        for (int i = 0; i < row.size(); i++) {
            if (row.get(i) != i) {
                int from = row.indexOf(i);
                row.set(from, row.get(i));
                row.set(i, i);
                swaps++;
            }
        }
        return swaps;
    }

    int rows(int swaps) {
        if (swaps < 0 || swaps > 6) {
            throw new IllegalArgumentException();
        }
        if (now.row.size() > 6) {
            return -2;
        }
        Set<List<Integer>> rows = new HashSet<>();
        rows.add(now.row);
        for (int i = 0; i < swaps; i++) {
            Set<List<Integer>> next = new HashSet<>();
            for (List<Integer> row : rows) {
                for (int a = 0; a < row.size(); a++) {
                    for (int b = a + 1; b < row.size(); b++) {
                        List<Integer> other = new ArrayList<>(row);
                        other.set(a, row.get(b));
                        other.set(b, row.get(a));
                        next.add(other);
                    }
                }
            }
            rows = next;
        }
        return rows.size();
    }

    int fool(int what) {
        if (what < 0 || what > 4) {
            throw new IllegalArgumentException();
        }
        return now.fool()[what];
    }

    int caught(int steps) {
        if (steps < 1 || steps > 20) {
            throw new IllegalArgumentException();
        }
        State then = new State(now);
        int caught = 0;
        for (int i = 0; i < steps; i++) {
            int[] step = then.fool();
            then.step(step[0] == 0 ? "swap" : "feint", step[1], step[2]);
            if (then.guess() == then.ballPlace()) {
                caught++;
            }
        }
        return caught;
    }

    int suspect(int k) {
        List<Integer> places = new ArrayList<>();
        for (int i = 0; i < now.belief.length; i++) {
            if (now.belief[i].signum() > 0) {
                places.add(i);
            }
        }
        places.sort((x, y) -> now.belief[y].compareTo(now.belief[x]));
        if (k < 0 || k >= places.size()) {
            throw new NoSuchElementException();
        }
        return places.get(k);
    }

    long checksum() {
        long sum = 0;
        for (int i = 0; i <= 12; i++) {
            sum = 31 * sum + state(i);
        }
        for (int place = 0; place < now.row.size(); place++) {
            for (int i = 0; i <= 3; i++) {
                sum = 31 * sum + shell(place, i);
            }
            sum = 31 * sum + belief(place);
        }
        return 31 * sum + belief(now.row.size());
    }

    // ---- changes

    private void checkPlace(int place) {
        if (place < 0 || place >= now.row.size()) {
            throw new IndexOutOfBoundsException();
        }
    }

    private void checkMove(int a, int b) {
        checkPlace(a);
        checkPlace(b);
        if (a == b) {
            throw new IllegalArgumentException();
        }
    }

    private void checkHand(String kind, int place) {
        checkPlace(place);
        int due = kind.equals("steal") ? place : now.row.size();
        if (!now.blinksNow() || now.sly == 0 || now.ballPlace() != due) {
            throw new IllegalStateException();
        }
    }

    boolean move(String kind, int a, int b) {
        checkMove(a, b);
        change();
        return now.step(kind, a, b);
    }

    boolean rest() {
        change();
        return now.step("rest", 0, 0);
    }

    int hand(String kind, int place) {
        checkHand(kind, place);
        change();
        now.step(kind, place, place);
        return state(10);
    }

    boolean peek(int place) {
        checkPlace(place);
        change();
        return now.peek(place);
    }

    int bet(int place, int stake) {
        checkPlace(place);
        if (stake < 1 || stake > 999) {
            throw new IllegalArgumentException();
        }
        if (now.purse < stake) {
            throw new IllegalStateException();
        }
        change();
        int odds = odds(place);
        if (now.peek(place)) {
            now.won++;
            now.purse = Math.min(1000000, now.purse + stake * odds);
        } else {
            now.lost++;
            now.purse -= stake;
        }
        return now.purse;
    }

    boolean scratch(int place, boolean isOn) {
        checkPlace(place);
        change();
        int shell = now.row.get(place);
        return isOn ? !now.scratchedShells.add(shell) : now.scratchedShells.remove(shell);
    }

    int blink(int first, int last) {
        if (first < 0 || first > 9999 || last < first || last > 9999) {
            throw new IllegalArgumentException();
        }
        if (now.blinks.size() == 8) {
            throw new IllegalStateException();
        }
        change();
        now.blinks.add(new int[] {first, last});
        return now.blinks.size();
    }

    int undo() {
        if (past.isEmpty()) {
            return -1;
        }
        now = past.removeLast();
        return past.size();
    }
}
