import java.nio.charset.StandardCharsets;
import java.util.ArrayList;
import java.util.List;
import java.util.Random;
import java.util.function.Function;

/** Runs of calls, always the same ones, whose answers are compared with those of the plain model. */
final class FuzzTest {
    // A text of 500 bytes: 25 times append, load or run, errorOffset, and checksum behind each.
    private static final int MOST_CALLS_AT_ONCE = 54;
    private static final String[] SOUP = {"shells", "ball", "scratch", "trust", "calm", "sly", "purse", "blink", "odds",
        "steps", "blinks", "chance", "swap", "feint", "rest", "steal", "plant", "peek", "repeat", ";", ";", ";", "(",
        ")", "+", "-", "*", "/", " ", "0", "1", "2", "3", "7", "9", "10", "20", "21", "99", "100", "9999", "10000",
        "00", "x", "\n", "\u00ff", "@"};

    private final Random random;
    private final Watch watch = new Watch();
    private final PlainModel model = new PlainModel();
    private final List<String> told = new ArrayList<>();

    private FuzzTest(long seed) {
        random = new Random(seed);
    }

    public static void main(String[] args) {
        int runs = args.length > 0 ? Integer.parseInt(args[0]) : 300;
        for (int seed = 0; seed < runs; seed++) {
            if (!new FuzzTest(seed).isRunAlike()) {
                System.out.println("run " + seed + " is not as the model");
                System.exit(1);
            }
        }
        System.out.println(runs + " runs are as the model");
    }

    private boolean isRunAlike() {
        boolean isLongGame = random.nextInt(3) == 0;
        while (watch.calls() + MOST_CALLS_AT_ONCE <= Watch.MOST_CALLS) {
            int kind = random.nextInt(isLongGame ? 400 : 60);
            boolean isAlike = kind == 0 ? text(setup(), true) : kind <= 2 ? text(script(), false)
                    : kind == 3 ? text(random.nextBoolean() ? soup() : mutated(setup()), true)
                    : kind == 4 ? text(random.nextBoolean() ? soup() : mutated(script()), false)
                    : kind <= 24 || isLongGame ? change() : kind <= 50 ? ask() : other();
            if (!isAlike) {
                return false;
            }
        }
        return true;
    }

    private boolean alike(String call, Function<Watch, ?> mine, Function<PlainModel, ?> theirs) {
        Object got = Check.answer(watch, mine);
        Object due;
        try {
            due = theirs.apply(model);
        } catch (RuntimeException e) {
            due = e.getClass();
        }
        told.add(call + " -> " + got);
        long sum = watch.checksum();
        if (got.equals(due) && sum == model.checksum()) {
            return true;
        }
        told.forEach(System.out::println);
        System.out.println("due is " + due + ", checksum " + sum + " due " + model.checksum());
        return false;
    }

    private int near(int most) {
        return random.nextInt(12) == 0 ? random.nextInt(most + 5) - 2 : random.nextInt(most + 1);
    }

    private int place() {
        return near(model.state(0) - 1);
    }

    private boolean text(String text, boolean isSetup) {
        byte[] bytes = text.getBytes(StandardCharsets.ISO_8859_1);
        for (int at = 0; at < bytes.length; at += 20) {
            int[] w = new int[5];
            for (int i = 0; i < 20; i++) {
                w[i / 4] = w[i / 4] << 8 | (at + i < bytes.length ? bytes[at + i] & 255 : random.nextInt(256));
            }
            if (!alike("append", x -> x.append(w[0], w[1], w[2], w[3], w[4]), y -> y.append(w))) {
                return false;
            }
        }
        int length = random.nextInt(40) == 0 ? near(bytes.length) : bytes.length;
        boolean isAlike = isSetup ? alike("load '" + text + "'", x -> x.load(length), y -> y.load(length))
                : alike("run '" + text + "'", x -> x.run(length), y -> y.run(length));
        return isAlike && alike("errorOffset", Watch::errorOffset, PlainModel::errorOffset);
    }

    private boolean change() {
        int a = place();
        int b = place();
        int k = random.nextInt(20);
        if (k < 7) {
            return alike("swap " + a + " " + b, x -> x.swap(a, b), y -> y.move("swap", a, b));
        }
        if (k < 10) {
            return alike("feint " + a + " " + b, x -> x.feint(a, b), y -> y.move("feint", a, b));
        }
        if (k == 10) {
            return alike("rest", Watch::rest, PlainModel::rest);
        }
        int ball = model.state(2);
        int near = random.nextInt(4) == 0 ? a : ball;
        if (k == 11) {
            return alike("steal " + near, x -> x.steal(near), y -> y.hand("steal", near));
        }
        if (k == 12) {
            return alike("plant " + a, x -> x.plant(a), y -> y.hand("plant", a));
        }
        if (k == 13) {
            return alike("peek " + a, x -> x.peek(a), y -> y.peek(a));
        }
        if (k == 14) {
            int stake = random.nextBoolean() ? near(999) : near(60);
            int at = random.nextInt(3) == 0 ? a : ball;
            return alike("bet " + at + " " + stake, x -> x.bet(at, stake), y -> y.bet(at, stake));
        }
        if (k == 15) {
            boolean isOn = random.nextBoolean();
            return alike("scratch " + a + " " + isOn, x -> x.scratch(a, isOn), y -> y.scratch(a, isOn));
        }
        if (k == 16) {
            int first = random.nextInt(10) == 0 ? near(9999) : model.state(1) + random.nextInt(5);
            int last = random.nextInt(10) == 0 ? near(9999) : first + random.nextInt(20);
            return alike("blink " + first + " " + last, x -> x.blink(first, last), y -> y.blink(first, last));
        }
        return k == 17 ? alike("undo", Watch::undo, PlainModel::undo) : ask();
    }

    private boolean ask() {
        int k = random.nextInt(14);
        int n = model.state(0);
        int at = near(n);
        int p = place();
        int what = near(12);
        int few = near(4);
        int step = random.nextInt(10) == 0 ? near(20000) : model.state(1) + random.nextInt(10);
        int swaps = near(6);
        int steps = near(20);
        return switch (k) {
            case 0 -> alike("state " + what, x -> x.state(what), y -> y.state(what));
            case 1 -> alike("shell " + p + " " + few, x -> x.shell(p, few), y -> y.shell(p, few));
            case 2 -> alike("belief " + at, x -> x.belief(at), y -> y.belief(at));
            case 3 -> alike("chance " + at, x -> x.chance(at), y -> y.chance(at));
            case 4 -> alike("doubt", Watch::doubt, PlainModel::doubt);
            case 5 -> alike("guess", Watch::guess, PlainModel::guess);
            case 6 -> alike("blinks " + step, x -> x.blinks(step), y -> y.blinks(step));
            case 7 -> alike("odds " + p, x -> x.odds(p), y -> y.odds(p));
            case 8 -> alike("fewest", Watch::fewest, PlainModel::fewest);
            case 9 -> alike("rows " + swaps, x -> x.rows(swaps), y -> y.rows(swaps));
            case 10, 11 -> alike("fool " + few, x -> x.fool(few), y -> y.fool(few));
            case 12 -> alike("caught " + steps, x -> x.caught(steps), y -> y.caught(steps));
            default -> alike("suspect " + at, x -> x.suspect(at), y -> y.suspect(at));
        };
    }

    private boolean other() {
        int k = random.nextInt(8);
        if (k < 5) {
            return alike("undo", Watch::undo, PlainModel::undo);
        }
        if (k == 5) {
            return alike("errorOffset", Watch::errorOffset, PlainModel::errorOffset);
        }
        if (k == 6) {
            int[] w = random.ints(5).toArray();
            return alike("append", x -> x.append(w[0], w[1], w[2], w[3], w[4]), y -> y.append(w));
        }
        int length = near(3);
        return random.nextBoolean() ? alike("load " + length, x -> x.load(length), y -> y.load(length))
                : alike("run " + length, x -> x.run(length), y -> y.run(length));
    }

    // ---- texts

    private String one(String... all) {
        return all[random.nextInt(all.length)];
    }

    private String number(int least, int most) {
        String zeros = random.nextInt(10) == 0 ? "00" : "";
        int wide = random.nextInt(60) == 0 ? 2 : 0;
        return zeros + Math.max(0, least - wide + random.nextInt(most - least + 1 + 2 * wide));
    }

    private String setup() {
        int shells = 2 + random.nextInt(7);
        StringBuilder text = new StringBuilder("shells ").append(shells).append(';');
        List<String> single = new ArrayList<>(List.of("ball " + number(0, shells - 1), "trust " + number(1, 99),
                "calm " + number(1, 9), "sly " + number(1, 9), "purse " + number(0, 9999), "odds " + sum(0)));
        int statements = random.nextInt(9);
        for (int i = 0; i < statements; i++) {
            int k = random.nextInt(9);
            if (k < 6 && !single.isEmpty()) {
                int which = random.nextInt(single.size());
                text.append(random.nextInt(40) == 0 ? single.get(which) : single.remove(which));
            } else if (k == 6) {
                text.append("scratch ").append(number(0, shells - 1));
                if (random.nextInt(3) == 0) {
                    text.append(' ').append(number(0, shells - 1));
                }
            } else {
                int first = random.nextInt(60);
                text.append("blink ").append(first).append(' ').append(number(first, first + 30));
            }
            text.append(one(";", "; ", " ;"));
        }
        return text.length() > 480 ? setup() : text.toString();
    }

    private String sum(int depth) {
        StringBuilder text = new StringBuilder(factor(depth));
        int more = random.nextInt(3);
        for (int i = 0; i < more; i++) {
            text.append(one("+", "-", "*", "/", " * ", " - ")).append(factor(depth));
        }
        return text.toString();
    }

    private String factor(int depth) {
        int k = random.nextInt(8);
        if (k == 0 || k == 1) {
            return depth > 4 ? "1" : "(" + sum(depth + 1) + ")";
        }
        return k == 2 ? number(0, 9999) : k < 5 ? number(0, 9) : one("shells", "steps", "blinks", "chance");
    }

    private String script() {
        String text = commands(0);
        return text.length() > 480 ? script() : text;
    }

    private String commands(int depth) {
        StringBuilder text = new StringBuilder();
        int shells = model.state(0);
        int count = random.nextInt(random.nextInt(12) == 0 ? 40 : 7);
        for (int i = 0; i < count; i++) {
            int k = random.nextInt(9);
            if (k < 4) {
                text.append(one("swap ", "feint", "swap")).append(number(0, shells - 1)).append(' ')
                        .append(number(0, shells - 1));
            } else if (k == 4) {
                text.append("rest");
            } else if (k == 5) {
                text.append(one("peek", "peek ")).append(number(0, shells - 1));
            } else if (k == 6) {
                text.append("steal ").append(model.state(2));
            } else if (k == 7) {
                text.append("plant ").append(number(0, shells - 1));
            } else if (depth < 4) {
                text.append("repeat ").append(number(1, 20)).append("(").append(commands(depth + 1)).append(")");
            } else {
                text.append("rest");
            }
            text.append(one(";", "; ", " ;"));
        }
        return text.toString();
    }

    private String mutated(String text) {
        StringBuilder next = new StringBuilder(text);
        int times = 1 + random.nextInt(2);
        for (int i = 0; i < times; i++) {
            int at = random.nextInt(next.length() + 1);
            if (random.nextBoolean() && at < next.length()) {
                next.deleteCharAt(at);
            } else {
                next.insert(at, one(SOUP));
            }
        }
        return next.length() > 490 ? text : next.toString();
    }

    private String soup() {
        StringBuilder text = new StringBuilder(random.nextInt(3) == 0 ? "" : "shells 3;");
        int count = random.nextInt(12);
        for (int i = 0; i < count; i++) {
            text.append(one(SOUP)).append(one("", " "));
        }
        return text.toString();
    }
}
