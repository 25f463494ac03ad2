import java.util.NoSuchElementException;

/** Promises 1, 6 to 17, 27 and 29: what can be asked. */
final class AskTest {
    private static final Class<?> ILLEGAL = IllegalArgumentException.class;
    private static final Class<?> NO_PLACE = IndexOutOfBoundsException.class;

    public static void main(String[] args) {
        newObject();
        state();
        shell();
        beliefAndChance();
        doubt();
        guess();
        blinks();
        odds();
        oddsWithinBounds();
        fewest();
        rows();
        fool();
        foolAtABlink();
        caught();
        suspect();
        checksum();
        asksChangeNothing();
        Check.finish();
    }

    private static void newObject() {
        Watch watch = new Watch();
        int[] due = {3, 0, 0, 0, 80, 1, 0, 100, 0, 0, 1, 1, 0};
        for (int what = 0; what < due.length; what++) {
            Check.is("state " + what + " of a new object", watch.state(what), due[what]);
        }
        Check.is("row of a new object", Check.row(watch), "012");
        Check.is("beliefs of a new object", Check.beliefs(watch), "1 0 0 0");
        Check.is("errorOffset of a new object", watch.errorOffset(), -1);
        Check.is("nothing to undo in a new object", watch.undo(), -1);
        Check.is("odds of a new object", watch.odds(2), 2);
        Check.is("buffer of a new object is empty", watch.append(0, 0, 0, 0, 0), 20);
        new Watch().swap(0, 1);
        Check.is("another object", new Watch().state(1), 0);
    }

    private static void state() {
        Watch watch = Check.loaded("shells 4;ball 3;trust 60;calm 2;sly 5;purse 50;blink 1 2;odds 3;");
        for (int what : new int[] {-1, 13, Integer.MIN_VALUE, Integer.MAX_VALUE}) {
            Check.refused("state(" + what + ")", watch, ILLEGAL, x -> x.state(what));
        }
        watch.swap(0, 3);
        watch.rest();
        watch.steal(0);
        watch.bet(1, 10);
        watch.blink(9, 9);
        int[] due = {4, 3, 4, 2, 60, 2, 5, 40, 0, 1};
        for (int what = 0; what < due.length; what++) {
            Check.is("state " + what, watch.state(what), due[what]);
        }
        Check.is("sum of beliefs", watch.state(10),
                watch.belief(0) + watch.belief(1) + watch.belief(2) + watch.belief(3) + watch.belief(4));
        Check.is("places believed in", watch.state(11), 4);
        Check.is("blinks told", watch.state(12), 2);
        // The blinks of steps made stay as they were told then.
        watch.blink(0, 9);
        Check.is("blinks at steps made", watch.state(3), 2);
    }

    private static void shell() {
        Watch watch = Check.loaded("shells 3;ball 1;scratch 2;");
        for (int place : new int[] {-1, 3, Integer.MIN_VALUE, Integer.MAX_VALUE}) {
            Check.refused("shell(" + place + ", 0)", watch, NO_PLACE, x -> x.shell(place, 0));
            Check.refused("shell(" + place + ", 4)", watch, NO_PLACE, x -> x.shell(place, 4));
        }
        Check.refused("shell(0, -1)", watch, ILLEGAL, x -> x.shell(0, -1));
        Check.refused("shell(2, 4)", watch, ILLEGAL, x -> x.shell(2, 4));
        watch.swap(1, 2);
        watch.swap(0, 1);
        watch.feint(0, 2);
        int[][] due = {{2, 1, 2, 0}, {0, 0, 1, 0}, {1, 0, 1, 1}};
        for (int place = 0; place < 3; place++) {
            for (int what = 0; what < 4; what++) {
                Check.is("shell " + place + " " + what, watch.shell(place, what), due[place][what]);
            }
        }
    }

    private static void beliefAndChance() {
        Watch watch = new Watch();
        watch.feint(0, 1);
        watch.swap(1, 2);
        int[] due = {5, 4, 16, 0};
        for (int at = 0; at < 4; at++) {
            Check.is("belief " + at, watch.belief(at), due[at]);
            Check.is("chance " + at, watch.chance(at), due[at] / 25.0);
        }
        for (int at : new int[] {-1, 4, Integer.MIN_VALUE, Integer.MAX_VALUE}) {
            Check.refused("belief(" + at + ")", watch, ILLEGAL, x -> x.belief(at));
            Check.refused("chance(" + at + ")", watch, ILLEGAL, x -> x.chance(at));
        }
        Watch third = Check.loaded("shells 2;trust 33;");
        third.swap(0, 1);
        Check.is("chance is a double", third.chance(1), 0.33);
    }

    private static void doubt() {
        Watch watch = new Watch();
        Check.is("no doubt", watch.doubt(), 0.0f);
        watch.swap(0, 1);
        Check.is("doubt", watch.doubt(), 1.0f - 4.0f / 5.0f);
        watch.swap(1, 2);
        Check.is("more doubt", watch.doubt(), 1.0f - 16.0f / 25.0f);
        Watch hand = Check.loaded("shells 2;sly 9;blink 0 9;");
        hand.steal(0);
        hand.peek(0);
        Check.is("the hand counts", Check.beliefs(hand), "0 1 9");
        Check.is("doubt of the hand", hand.doubt(), 1.0f - 9.0f / 10.0f);
    }

    private static void guess() {
        Watch watch = new Watch();
        Check.is("guess at first", watch.guess(), 0);
        watch.swap(0, 2);
        Check.is("guess of the greatest", watch.guess(), 2);
        Watch equal = Check.loaded("shells 4;ball 3;trust 50;");
        equal.swap(1, 3);
        Check.is("guess of the smallest of equals", equal.guess(), 1);
        Watch hand = Check.loaded("shells 3;sly 1;blink 0 9;");
        hand.steal(0);
        hand.peek(0);
        hand.peek(1);
        hand.peek(2);
        Check.is("just the hand is believed in", Check.beliefs(hand), "0 0 0 1");
        Check.is("guess is no hand", hand.guess(), 0);
    }

    private static void blinks() {
        Watch watch = Check.loaded("shells 3;blink 2 4;blink 4 6;blink 9999 9999;");
        for (int step = 0; step <= 10; step++) {
            Check.is("blinks " + step, watch.blinks(step), step >= 2 && step <= 6);
        }
        Check.is("blinks 9998", watch.blinks(9998), false);
        Check.is("blinks 9999", watch.blinks(9999), true);
        Check.is("blinks 20000", watch.blinks(20000), false);
        for (int step : new int[] {-1, 20001, Integer.MIN_VALUE, Integer.MAX_VALUE}) {
            Check.refused("blinks(" + step + ")", watch, ILLEGAL, x -> x.blinks(step));
        }
    }

    private static void odds(String sum, int due) {
        // 5 shells, 3 steps, 2 of them at a blink, and no chance at place 1
        Watch watch = Check.loaded("shells 5;blink 1 2;odds " + sum + ";");
        watch.rest();
        watch.rest();
        watch.rest();
        watch.peek(0);
        watch.blink(0, 3);
        Check.is("odds " + sum, watch.odds(1), due);
    }

    private static void odds() {
        odds("shells", 5);
        odds("steps", 3);
        odds("blinks", 2);
        odds("chance", 0);
        odds("chance+1", 1);
        odds("7-2-1", 4);
        odds("7-(2-1)", 6);
        odds("2+3*2", 8);
        odds("(2+3)*2-3", 7);
        odds("9/2*2", 8);
        odds("9/(2*2)", 2);
        odds("2*9/4", 4);
        odds("7/2", 3);
        odds("5-7/2", 2);
        odds("9+(1-8)/2", 6);
        odds("9+(0-7)/(0-2)", 9);
        odds("3+(0-7)/(0-2)", 6);
        odds("5/0+4", 4);
        odds("5/(shells-5)+4", 4);
        odds("0-1", 0);
        odds("10", 9);
        odds("9", 9);
        odds("((((steps))))", 3);
        odds("9-1*(8-1*(7-1*(6-1*(5-1*2))))", 5);
        Watch watch = Check.loaded("shells 3;odds chance/10-1;");
        watch.swap(0, 1);
        Check.is("odds of 80 in 100", watch.odds(1), 7);
        Check.is("odds of 20 in 100", watch.odds(0), 1);
        Check.is("odds of 0 in 100", watch.odds(2), 0);
        Watch third = Check.loaded("shells 3;calm 1;blink 0 0;odds chance-30;");
        third.rest();
        third.peek(1);
        Check.is("chance is rounded toward zero", third.odds(2), 3);
        Watch none = Check.loaded("shells 8;");
        Check.is("odds without a statement", none.odds(7), 7);
        for (int place : new int[] {-1, 8, Integer.MIN_VALUE, Integer.MAX_VALUE}) {
            Check.refused("odds(" + place + ")", none, NO_PLACE, x -> x.odds(place));
        }
    }

    private static void oddsWithinBounds() {
        odds("9999*9999/9999-95", 5);
        odds("9999*9999-9999*100-99", 1);
        odds("9999*9999-(9999*100+98)", 2);
        odds("9999*9999*9999*9999/9999/100", 1);
        odds("(0-9999*9999)*9999/1000+1005", 5);
        odds("(0-9999)*9999*2+9999*100+105", 5);
        odds("9999*100+9999*100-9999*100-96", 4);
        odds("0-9999*100-9999*100+9999*100+102", 2);
    }

    private static void fewest() {
        Watch watch = Check.loaded("shells 6;");
        Check.is("fewest at first", watch.fewest(), 0);
        watch.feint(0, 1);
        Check.is("fewest behind a feint", watch.fewest(), 0);
        watch.swap(0, 1);
        Check.is("fewest of a swap", watch.fewest(), 1);
        watch.swap(2, 3);
        watch.swap(4, 5);
        Check.is("fewest of three pairs", watch.fewest(), 3);
        watch.swap(1, 2);
        watch.swap(3, 4);
        Check.is("fewest of a whole round", watch.fewest(), 5);
        watch.swap(0, 1);
        watch.swap(0, 1);
        Check.is("fewest of two equal swaps", watch.fewest(), 5);
        watch.swap(0, 5);
        Check.is("fewest of a round cut", watch.fewest(), 4);
    }

    private static void rows() {
        int[][] due = {
            {1, 1, 1, 1, 1, 1, 1},
            {1, 3, 3, 3, 3, 3, 3},
            {1, 6, 12, 12, 12, 12, 12},
            {1, 10, 36, 60, 60, 60, 60},
            {1, 15, 86, 240, 360, 360, 360}};
        for (int shells = 2; shells <= 6; shells++) {
            Watch watch = Check.loaded("shells " + shells + ";");
            for (int swaps = 0; swaps <= 6; swaps++) {
                Check.is("rows " + swaps + " of " + shells, watch.rows(swaps), due[shells - 2][swaps]);
            }
            watch.swap(0, 1);
            Check.is("rows of a row swapped", watch.rows(2), due[shells - 2][2]);
        }
        for (int shells = 3; shells <= 8; shells++) {
            Watch watch = Check.loaded("shells " + shells + ";");
            Check.refused("rows(-1)", watch, ILLEGAL, x -> x.rows(-1));
            Check.refused("rows(7)", watch, ILLEGAL, x -> x.rows(7));
            if (shells > 6) {
                Check.is("rows of many", watch.rows(0), -2);
                Check.is("rows of many", watch.rows(6), -2);
            }
        }
    }

    private static void fool(String what, Watch watch, int... due) {
        for (int i = 0; i < due.length; i++) {
            Check.is("fool " + i + " of " + what, watch.fool(i), due[i]);
        }
        Check.refused("fool(-1)", watch, ILLEGAL, x -> x.fool(-1));
        Check.refused("fool(5)", watch, ILLEGAL, x -> x.fool(5));
    }

    private static void fool() {
        fool("a new object", new Watch(), 1, 0, 1, 1, 5);
        fool("little trust", Check.loaded("shells 3;trust 20;"), 0, 0, 1, 1, 5);
        fool("a swap ahead of a feint", Check.loaded("shells 3;trust 50;"), 0, 0, 1, 1, 2);
        fool("the smaller places", Check.loaded("shells 4;ball 2;"), 1, 0, 2, 1, 5);
        fool("the smaller b", Check.loaded("shells 4;ball 2;trust 10;scratch 0 1;"), 0, 2, 3, 1, 10);
        fool("no doubt possible", Check.loaded("shells 3;scratch 0;"), 0, 0, 1, 1, 1);
        // All shells of the other kind betray; a feint with the one of its own kind fools
        fool("a shell of the same kind", Check.loaded("shells 4;ball 3;scratch 0 3;"), 1, 0, 3, 1, 5);
    }

    private static void foolAtABlink() {
        fool("a blink", Check.loaded("shells 3;blink 0 0;"), 0, 0, 1, 1, 4);
        fool("a blink and calm", Check.loaded("shells 3;calm 9;blink 0 0;"), 0, 0, 1, 1, 12);
        fool("a blink and scratches", Check.loaded("shells 3;scratch 0;blink 0 0;"), 0, 0, 1, 1, 1);
        fool("a blink at another step", Check.loaded("shells 3;blink 1 1;"), 1, 0, 1, 1, 5);
        Watch hand = Check.loaded("shells 2;sly 1;blink 0 0;trust 70;");
        hand.steal(0);
        Check.is("beliefs with the ball in the hand", Check.beliefs(hand), "4 1 1");
        fool("the ball in the hand", hand, 0, 0, 1, 10, 60);
    }

    private static void caught() {
        Watch watch = new Watch();
        Check.is("caught 1", watch.caught(1), 0);
        for (int steps : new int[] {0, -1, 21, Integer.MIN_VALUE, Integer.MAX_VALUE}) {
            Check.refused("caught(" + steps + ")", watch, ILLEGAL, x -> x.caught(steps));
        }
        // Just betrayed moves can be made: the watcher follows each.
        Watch sure = Check.loaded("shells 2;scratch 0;");
        for (int steps = 1; steps <= 20; steps++) {
            Check.is("always caught", sure.caught(steps), steps);
        }
        // caught is told by fool and guess
        for (String text : new String[] {"shells 3;", "shells 5;ball 2;trust 60;blink 2 3;scratch 4;",
            "shells 8;trust 51;calm 3;sly 2;blink 1 9;ball 6;", "shells 4;trust 30;"}) {
            Watch foretold = Check.loaded(text);
            Watch made = Check.loaded(text);
            int times = 0;
            for (int steps = 1; steps <= 20; steps++) {
                int a = made.fool(1);
                int b = made.fool(2);
                boolean isBlink = made.fool(0) == 0 ? made.swap(a, b) : made.feint(a, b);
                Check.is("blink of the step made", isBlink, foretold.blinks(steps - 1));
                times += made.guess() == made.state(2) ? 1 : 0;
                Check.is("caught " + steps + " of " + text, foretold.caught(steps), times);
            }
        }
        Watch hand = Check.loaded("shells 2;sly 1;blink 0 0;");
        hand.steal(0);
        Check.is("no ball to catch", hand.caught(20), 0);
    }

    private static void suspect() {
        Class<?> none = NoSuchElementException.class;
        Watch watch = new Watch();
        Check.is("suspect at first", watch.suspect(0), 0);
        Check.refused("suspect(1) at first", watch, none, x -> x.suspect(1));
        watch.swap(0, 1);
        watch.swap(1, 2);
        Check.is("beliefs to suspect", Check.beliefs(watch), "5 4 16 0");
        Check.is("suspect 0", watch.suspect(0), 2);
        Check.is("suspect 1", watch.suspect(1), 0);
        Check.is("suspect 2", watch.suspect(2), 1);
        for (int k : new int[] {3, 4, -1, Integer.MIN_VALUE, Integer.MAX_VALUE}) {
            Check.refused("suspect(" + k + ")", watch, none, x -> x.suspect(k));
        }
        Watch equal = Check.loaded("shells 2;sly 1;blink 0 0;ball 1;");
        equal.rest();
        Check.is("equal beliefs", Check.beliefs(equal), "1 4 1");
        Check.is("the greatest", equal.suspect(0), 1);
        Check.is("the smallest of equals", equal.suspect(1), 0);
        Check.is("the hand is last", equal.suspect(2), 2);
    }

    private static void checksum() {
        Watch watch = Check.loaded("shells 4;ball 3;scratch 1;sly 9;blink 0 5;purse 9999;");
        watch.swap(3, 1);
        watch.steal(1);
        watch.bet(0, 500);
        long sum = 0;
        for (int what = 0; what <= 12; what++) {
            sum = 31 * sum + watch.state(what);
        }
        for (int place = 0; place < 4; place++) {
            for (int what = 0; what <= 3; what++) {
                sum = 31 * sum + watch.shell(place, what);
            }
            sum = 31 * sum + watch.belief(place);
        }
        Check.is("checksum", watch.checksum(), 31 * sum + watch.belief(4));
        // 2 shells with nothing done, told number by number
        long two = 0;
        for (int n : new int[] {2, 0, 0, 0, 80, 1, 0, 100, 0, 0, 1, 1, 0, 0, 0, 0, 1, 1, 1, 0, 0, 0, 0, 0}) {
            two = 31 * two + n;
        }
        Check.is("checksum of two shells", Check.loaded("shells 2;").checksum(), two);
    }

    private static void asksChangeNothing() {
        Watch watch = Check.loaded("shells 6;ball 2;scratch 1 4;blink 1 3;sly 3;odds chance/9;");
        watch.swap(0, 2);
        watch.rest();
        String before = Check.view(watch);
        watch.fool(0);
        watch.caught(20);
        watch.rows(6);
        watch.fewest();
        watch.guess();
        watch.suspect(0);
        watch.doubt();
        watch.chance(6);
        watch.checksum();
        Check.is("game behind questions", Check.view(watch), before);
        Check.is("questions are no changes", watch.undo(), 2);
    }
}
