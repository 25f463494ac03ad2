import java.util.ArrayList;
import java.util.List;
import java.util.function.Function;

/**
 * A ShellWatch that counts its calls: the document promises the first 512 of an object, so that no
 * test may ask for more.
 */
final class Watch {
    static final int MOST_CALLS = 512;

    private final ShellWatch inner = new ShellWatch();
    private final List<Function<ShellWatch, ?>> made = new ArrayList<>();

    private <T> T call(Function<ShellWatch, T> call) {
        if (made.size() >= MOST_CALLS) {
            throw new AssertionError("more than " + MOST_CALLS + " calls of one object");
        }
        made.add(call);
        return call.apply(inner);
    }

    int calls() {
        return made.size();
    }

    /** Another object with which the same calls were made; what it is asked is no call of this one. */
    Watch twin() {
        Watch twin = new Watch();
        for (Function<ShellWatch, ?> one : made) {
            try {
                twin.call(one);
            } catch (RuntimeException e) {
                // Refused, as it was here.
                continue;
            }
        }
        return twin;
    }

    int append(int w0, int w1, int w2, int w3, int w4) {
        return call(x -> x.append(w0, w1, w2, w3, w4));
    }

    int load(int length) {
        return call(x -> x.load(length));
    }

    int run(int length) {
        return call(x -> x.run(length));
    }

    int errorOffset() {
        return call(ShellWatch::errorOffset);
    }

    int state(int what) {
        return call(x -> x.state(what));
    }

    int shell(int place, int what) {
        return call(x -> x.shell(place, what));
    }

    int belief(int at) {
        return call(x -> x.belief(at));
    }

    double chance(int at) {
        return call(x -> x.chance(at));
    }

    float doubt() {
        return call(ShellWatch::doubt);
    }

    int guess() {
        return call(ShellWatch::guess);
    }

    boolean blinks(int step) {
        return call(x -> x.blinks(step));
    }

    int odds(int place) {
        return call(x -> x.odds(place));
    }

    int fewest() {
        return call(ShellWatch::fewest);
    }

    int rows(int swaps) {
        return call(x -> x.rows(swaps));
    }

    int fool(int what) {
        return call(x -> x.fool(what));
    }

    int caught(int steps) {
        return call(x -> x.caught(steps));
    }

    boolean swap(int a, int b) {
        return call(x -> x.swap(a, b));
    }

    boolean feint(int a, int b) {
        return call(x -> x.feint(a, b));
    }

    boolean rest() {
        return call(ShellWatch::rest);
    }

    int steal(int place) {
        return call(x -> x.steal(place));
    }

    int plant(int place) {
        return call(x -> x.plant(place));
    }

    boolean peek(int place) {
        return call(x -> x.peek(place));
    }

    int bet(int place, int stake) {
        return call(x -> x.bet(place, stake));
    }

    boolean scratch(int place, boolean isOn) {
        return call(x -> x.scratch(place, isOn));
    }

    int blink(int first, int last) {
        return call(x -> x.blink(first, last));
    }

    int suspect(int k) {
        return call(x -> x.suspect(k));
    }

    int undo() {
        return call(ShellWatch::undo);
    }

    long checksum() {
        return call(ShellWatch::checksum);
    }
}
