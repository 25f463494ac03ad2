import java.math.BigInteger;
import java.util.NoSuchElementException;
import java.util.function.Function;

/** The bounds that the document names for the calls, but for texts and beliefs: each sentence by itself. */
final class CallBoundsTest {
    private static final Class<?> ILLEGAL = IllegalArgumentException.class;
    private static final Class<?> NO_PLACE = IndexOutOfBoundsException.class;
    private static final Class<?> NOT_NOW = IllegalStateException.class;
    private static final Class<?> NONE = NoSuchElementException.class;
    private static final int LEAST = Integer.MIN_VALUE;
    private static final int GREATEST = Integer.MAX_VALUE;

    public static void main(String[] args) {
        aNewObject();
        placesOfARow();
        placesThatThereAreNot();
        firstOfSeveralExceptions();
        theHand();
        numbersOfState();
        numbersOfShell();
        movesOfShells();
        beliefsAndChances();
        chancesAreDoubles();
        doubts();
        guesses();
        stepsOfBlinks();
        fewestSwaps();
        rowsOfSwaps();
        numbersOfFool();
        foolsOfTheSameChance();
        foolsOfGreatBeliefs();
        foolsAtBlinks();
        stepsOfCaught();
        caughtAtBlinks();
        caughtWithTheBallInTheHand();
        suspects();
        suspectsOfTheSameBelief();
        equalPlaces();
        scratches();
        toldBlinks();
        eightToldBlinks();
        stealsAndPlants();
        undoOfNothing();
        undoOfEight();
        changesThatAreFinal();
        eachChangingMethod();
        changesThatChangeNothing();
        callsThatAreNoChanges();
        refusedBehindEightChanges();
        undoLeavesTheBuffer();
        loadsReplaceAll();
        loadsBehindForetelling();
        loadsOfOtherNumbersOfShells();
        checksumsWrapAround();
        fiveHundredAndTwelveCalls();
        manySteps();
        Check.finish();
    }

    // ---- what the sentences share

    private static Watch shells(int shells) {
        return Check.loaded("shells " + shells + ";");
    }

    private static Watch played(String setup, String script) {
        Watch watch = Check.loaded(setup);
        Check.run(watch, script);
        return watch;
    }

    private static void refused(Watch watch, Class<?> due, String what, Function<Watch, ?> call) {
        Check.refused(what, watch, due, call);
    }

    private static void fool(Watch watch, int... due) {
        for (int what = 0; what < due.length; what++) {
            Check.is("fool(" + what + ")", watch.fool(what), due[what]);
        }
    }

    // ---- places

    private static void aNewObject() {
        Check.sentence("Creates an object with 3 shells, with an empty input buffer.");
        Watch watch = new Watch();
        int[] due = {3, 0, 0, 0, 80, 1, 0, 100, 0, 0, 1, 1, 0};
        for (int what = 0; what < due.length; what++) {
            Check.is("state(" + what + ")", watch.state(what), due[what]);
        }
        for (int place = 0; place < 3; place++) {
            Check.is("shell there", watch.shell(place, 0), place);
            Check.is("scratch", watch.shell(place, 1), 0);
            Check.is("moves", watch.shell(place, 2), 0);
            Check.is("ball", watch.shell(place, 3), place == 0 ? 1 : 0);
            Check.is("odds", watch.odds(place), 2);
        }
        Check.is("beliefs", Check.beliefs(watch), "1 0 0 0");
        refused(watch, ILLEGAL, "load(1)", x -> x.load(1));
        Check.is("the first bytes", watch.append(0, 0, 0, 0, 0), 20);
        Check.is("nothing to undo", watch.undo(), -1);
    }

    private static void placesOfARow() {
        Check.sentence("There are 2 to 8 shells in a row; their places have the indexes from 0");
        for (int shells = 2; shells <= 8; shells++) {
            Watch watch = shells(shells);
            int last = shells - 1;
            for (int place = 0; place < shells; place++) {
                Check.is("shell at " + place + " of " + shells, watch.shell(place, 0), place);
                Check.is("odds of " + place, watch.odds(place), shells - 1);
            }
            Check.is("scratch at the last place", watch.scratch(last, true), false);
            Check.is("scratch there", watch.shell(last, 1), 1);
            Check.is("peek at the last place", watch.peek(last), false);
            Check.is("bet on the last place", watch.bet(last, 1), 99);
            Check.is("swap with the last place", watch.swap(last, 0), false);
            Check.is("shell at the last place", watch.shell(last, 0), 0);
            Check.is("feint with the last place", watch.feint(0, last), false);
            Check.is("ball at the last place", watch.state(2), last);
        }
    }

    private static void placesThatThereAreNot() {
        Check.sentence("IndexOutOfBoundsException is thrown if a parameter named place, a or b is not the"
                + " index of a place");
        for (int shells : new int[] {2, 3, 7, 8}) {
            Watch watch = Check.loaded("shells " + shells + ";sly 1;blink 0 9;");
            for (int no : new int[] {-1, shells, shells + 1, 9, LEAST, GREATEST}) {
                String of = no + " of " + shells;
                refused(watch, NO_PLACE, "shell " + of, x -> x.shell(no, 0));
                refused(watch, NO_PLACE, "odds " + of, x -> x.odds(no));
                refused(watch, NO_PLACE, "swap a " + of, x -> x.swap(no, 1));
                refused(watch, NO_PLACE, "swap b " + of, x -> x.swap(1, no));
                refused(watch, NO_PLACE, "feint a " + of, x -> x.feint(no, 1));
                refused(watch, NO_PLACE, "feint b " + of, x -> x.feint(1, no));
                refused(watch, NO_PLACE, "steal " + of, x -> x.steal(no));
                refused(watch, NO_PLACE, "plant " + of, x -> x.plant(no));
                refused(watch, NO_PLACE, "peek " + of, x -> x.peek(no));
                refused(watch, NO_PLACE, "bet " + of, x -> x.bet(no, 1));
                refused(watch, NO_PLACE, "scratch " + of, x -> x.scratch(no, true));
                refused(watch, NO_PLACE, "smooth " + of, x -> x.scratch(no, false));
            }
        }
        Watch inHand = Check.loaded("shells 3;sly 1;blink 0 9;");
        inHand.steal(0);
        refused(inHand, NO_PLACE, "plant in the hand", x -> x.plant(3));
        refused(inHand, NO_PLACE, "peek at the hand", x -> x.peek(3));
        refused(inHand, NO_PLACE, "bet on the hand", x -> x.bet(3, 1));
    }

    private static void firstOfSeveralExceptions() {
        Check.sentence("If several exceptions apply to a call, the one that is listed first with the method is"
                + " thrown.");
        Watch watch = shells(3);
        for (int no : new int[] {-1, 3}) {
            refused(watch, NO_PLACE, "shell of no place and no what", x -> x.shell(no, 4));
            refused(watch, NO_PLACE, "shell of no place and no what", x -> x.shell(no, -1));
            refused(watch, NO_PLACE, "swap of no place twice", x -> x.swap(no, no));
            refused(watch, NO_PLACE, "feint of no place twice", x -> x.feint(no, no));
            refused(watch, NO_PLACE, "steal at no place and no blink", x -> x.steal(no));
            refused(watch, NO_PLACE, "plant at no place and no blink", x -> x.plant(no));
            refused(watch, NO_PLACE, "bet on no place, no stake", x -> x.bet(no, 0));
            refused(watch, NO_PLACE, "bet on no place, too great a stake", x -> x.bet(no, 1000));
            refused(watch, NO_PLACE, "bet on no place, more than the purse", x -> x.bet(no, 999));
        }
        refused(watch, ILLEGAL, "bet of a stake out of range, more than the purse", x -> x.bet(0, 1000));
        refused(watch, NOT_NOW, "bet of more than the purse", x -> x.bet(0, 101));
        for (int i = 0; i < 8; i++) {
            watch.blink(i, i);
        }
        refused(watch, ILLEGAL, "a 9th blink out of range", x -> x.blink(-1, 0));
        refused(watch, ILLEGAL, "a 9th blink out of range", x -> x.blink(0, 10000));
        refused(watch, ILLEGAL, "a 9th blink whose last step is ahead of its first", x -> x.blink(1, 0));
        refused(watch, NOT_NOW, "a 9th blink", x -> x.blink(0, 9999));
    }

    private static void theHand() {
        Check.sentence("the hand is told as the place whose index is the number of shells.");
        for (int shells = 2; shells <= 8; shells++) {
            Watch watch = Check.loaded("shells " + shells + ";sly 1;blink 0 9;ball 1;");
            watch.steal(1);
            Check.is("ball of " + shells, watch.state(2), shells);
            for (int place = 0; place < shells; place++) {
                Check.is("ball is not at " + place, watch.shell(place, 3), 0);
                watch.peek(place);
            }
            Check.is("belief of the hand", watch.belief(shells), 1);
            Check.is("chance of the hand", watch.chance(shells), 1.0);
            Check.is("suspect of the hand", watch.suspect(0), shells);
            watch.swap(0, 1);
            Check.is("a swap leaves the hand", watch.state(2), shells);
            watch.plant(shells - 1);
            Check.is("ball planted", watch.state(2), shells - 1);
            Check.sentence("A ball moves with its shell.");
            watch.swap(shells - 1, 0);
            Check.is("ball behind a swap of its shell", watch.state(2), 0);
            watch.feint(shells - 1, 0);
            Check.is("ball behind a feint", watch.state(2), 0);
        }
    }

    // ---- what is told

    private static void numbersOfState() {
        Check.sentence("state: if what is out of range");
        for (int shells : new int[] {2, 8}) {
            Watch watch = shells(shells);
            for (int what : new int[] {-1, 13, LEAST, GREATEST}) {
                refused(watch, ILLEGAL, "state(" + what + ")", x -> x.state(what));
            }
            Check.is("state(0)", watch.state(0), shells);
            Check.is("state(12)", watch.state(12), 0);
        }
        Watch watch = played("shells 4;ball 3;trust 60;calm 2;sly 5;purse 50;blink 1 2;odds 3;",
                "swap 0 3;rest;steal 0;");
        watch.bet(1, 10);
        watch.blink(0, 9999);
        int[] due = {4, 3, 4, 2, 60, 2, 5, 40, 0, 1};
        for (int what = 0; what < due.length; what++) {
            Check.is("state(" + what + ")", watch.state(what), due[what]);
        }
        Check.is("state(11)", watch.state(11), 4);
        Check.is("state(12)", watch.state(12), 2);
    }

    private static void numbersOfShell() {
        Check.sentence("shell: if what is out of range");
        for (int shells : new int[] {2, 8}) {
            Watch watch = shells(shells);
            for (int what : new int[] {-1, 4, LEAST, GREATEST}) {
                refused(watch, ILLEGAL, "shell(0, " + what + ")", x -> x.shell(0, what));
                refused(watch, ILLEGAL, "shell(last, " + what + ")", x -> x.shell(shells - 1, what));
            }
            Check.is("shell(0, 3)", watch.shell(0, 3), 1);
            Check.is("shell(last, 3)", watch.shell(shells - 1, 3), 0);
            Check.is("shell(last, 0)", watch.shell(shells - 1, 0), shells - 1);
        }
    }

    private static void movesOfShells() {
        Check.sentence("how often this shell was moved by swaps");
        Watch watch = played("shells 4;scratch 3;", "swap 0 3;swap 3 1;feint 0 1;rest;swap 1 0;");
        // Places 0 to 3 have the shells 0, 3, 2 and 1.
        int[][] due = {{0, 0, 3, 1}, {3, 1, 2, 0}, {2, 0, 0, 0}, {1, 0, 1, 0}};
        for (int place = 0; place < 4; place++) {
            for (int what = 0; what < 4; what++) {
                Check.is("shell(" + place + ", " + what + ")", watch.shell(place, what), due[place][what]);
            }
        }
        for (int shells = 2; shells <= 8; shells++) {
            Watch all = shells(shells);
            int last = shells - 1;
            for (int place = 0; place < last; place++) {
                all.swap(place, last);
                all.swap(last, place);
            }
            for (int place = 0; place < shells; place++) {
                Check.is("moves of the shell at " + place, all.shell(place, 2), place < last ? 2 : 2 * last);
            }
        }
    }

    private static void beliefsAndChances() {
        Check.sentence("at: 0 to the number of shells (the hand)");
        for (int shells : new int[] {2, 3, 8}) {
            Watch watch = shells(shells);
            for (int at : new int[] {-1, shells + 1, 9, LEAST, GREATEST}) {
                refused(watch, ILLEGAL, "belief(" + at + ")", x -> x.belief(at));
                refused(watch, ILLEGAL, "chance(" + at + ")", x -> x.chance(at));
            }
            Check.is("belief of the first", watch.belief(0), 1);
            Check.is("belief of the hand", watch.belief(shells), 0);
            Check.is("chance of the first", watch.chance(0), 1.0);
            Check.is("chance of the hand", watch.chance(shells), 0.0);
        }
    }

    private static void chancesAreDoubles() {
        Check.sentence("the belief there divided by the sum of all beliefs, both converted to double.");
        Watch third = played("shells 3;blink 0 0;", "rest;peek 2;");
        Check.is("two of three", third.chance(0), 2.0 / 3.0);
        Check.is("one of three", third.chance(1), 1.0 / 3.0);
        Watch great = played("shells 2;trust 74;", "swap 0 1;feint 0 1;swap 0 1;feint 0 1;swap 0 1;");
        Check.is("594800 of 1220704", great.chance(0), 594800.0 / 1220704.0);
        Watch hand = played("shells 2;sly 9;blink 0 0;", "steal 0;");
        Check.is("9 of 38", hand.chance(2), 9.0 / 38.0);
    }

    private static void doubts() {
        Check.sentence("1 less the greatest belief (of the hand, too) divided by the sum of all, all three"
                + " converted to float.");
        Check.is("no doubt", new Watch().doubt(), 0.0f);
        Check.is("4 of 5", played("shells 3;", "swap 0 1;").doubt(), 1.0f - 4.0f / 5.0f);
        Check.is("2 of 3", played("shells 3;blink 0 0;", "rest;peek 2;").doubt(), 1.0f - 2.0f / 3.0f);
        Check.is("1 of 2", played("shells 2;trust 50;", "swap 0 1;").doubt(), 0.5f);
        Check.is("the hand", played("shells 2;sly 9;blink 0 0;", "steal 0;peek 0;").doubt(), 1.0f - 9.0f / 10.0f);
        Check.is("just the hand", played("shells 2;sly 9;blink 0 0;", "steal 0;peek 0;peek 1;").doubt(), 0.0f);
        Check.is("1000000 of 2441407",
                played("shells 3;trust 64;", "swap 2 0;feint 2 1;swap 2 0;swap 2 0;swap 2 0;").doubt(),
                1.0f - 1000000.0f / 2441407.0f);
    }

    private static void guesses() {
        Check.sentence("the place of a shell with the greatest belief, of several the smallest one.");
        Check.is("one place", Check.loaded("shells 8;ball 7;").guess(), 7);
        Check.is("0 and 1 of 2", played("shells 2;trust 50;", "swap 0 1;").guess(), 0);
        Check.is("1 and 3 of 4", played("shells 4;ball 3;trust 50;", "swap 3 1;").guess(), 1);
        Check.is("the last two of 8", played("shells 8;ball 7;trust 50;", "swap 7 6;").guess(), 6);
        Check.is("less at the smaller one", played("shells 2;trust 51;", "swap 0 1;").guess(), 1);
        Check.is("more at the smaller one", played("shells 2;trust 49;", "swap 0 1;").guess(), 0);
        Watch hand = played("shells 3;sly 9;blink 0 0;", "steal 0;peek 0;");
        Check.is("beliefs with the hand", Check.beliefs(hand), "0 1 1 9");
        Check.is("the hand is no shell", hand.guess(), 1);
        Watch none = played("shells 3;sly 9;blink 0 0;", "steal 0;peek 0;peek 1;peek 2;");
        Check.is("no shell is believed in", none.guess(), 0);
    }

    private static void stepsOfBlinks() {
        Check.sentence("step: 0 to 20000");
        Watch watch = Check.loaded("shells 3;blink 0 9999;");
        for (int step : new int[] {-1, 20001, LEAST, GREATEST}) {
            refused(watch, ILLEGAL, "blinks(" + step + ")", x -> x.blinks(step));
        }
        Check.is("blinks(0)", watch.blinks(0), true);
        Check.is("blinks(9999)", watch.blinks(9999), true);
        Check.is("blinks(10000)", watch.blinks(10000), false);
        Check.is("blinks(20000)", watch.blinks(20000), false);
        Check.is("blinks(0) without a blink", new Watch().blinks(0), false);
    }

    // ---- what is found out

    private static void fewestSwaps() {
        Check.sentence("the fewest swaps by which each shell would be at the place at which it was first.");
        for (int shells = 2; shells <= 8; shells++) {
            Watch watch = shells(shells);
            Check.is("none", watch.fewest(), 0);
            for (int place = 1; place < shells; place++) {
                watch.swap(place - 1, place);
                Check.is("a round of " + (place + 1), watch.fewest(), place);
            }
            for (int place = shells - 1; place > 0; place--) {
                watch.swap(place - 1, place);
                Check.is("back to a round of " + place, watch.fewest(), place - 1);
            }
        }
        Check.is("four pairs", played("shells 8;", "swap 0 7;swap 1 6;swap 2 5;swap 3 4;").fewest(), 4);
        Check.is("a round of 3 and one of 2", played("shells 5;", "swap 0 2;swap 2 4;swap 1 3;").fewest(), 3);
        Check.is("a feint", played("shells 5;", "feint 0 1;").fewest(), 0);
        Check.is("twice the same", played("shells 5;", "swap 0 1;swap 1 0;").fewest(), 0);
    }

    private static void rowsOfSwaps() {
        Check.sentence("swaps: 0 to 6 .. different rows .. by exactly so many swaps");
        int[][] due = {{1, 1, 1, 1, 1, 1, 1}, {1, 3, 3, 3, 3, 3, 3}, {1, 6, 12, 12, 12, 12, 12},
            {1, 10, 36, 60, 60, 60, 60}, {1, 15, 86, 240, 360, 360, 360}};
        for (int shells = 2; shells <= 6; shells++) {
            Watch watch = shells(shells);
            for (int swaps = 0; swaps <= 6; swaps++) {
                Check.is(swaps + " swaps of " + shells, watch.rows(swaps), due[shells - 2][swaps]);
            }
            watch.swap(0, shells - 1);
            Check.is("3 swaps of a row swapped", watch.rows(3), due[shells - 2][3]);
        }
        Check.sentence("-2 with more than 6 shells.");
        for (int swaps = 0; swaps <= 6; swaps++) {
            Check.is(swaps + " swaps of 7", shells(7).rows(swaps), -2);
            Check.is(swaps + " swaps of 8", shells(8).rows(swaps), -2);
        }
        Check.sentence("rows: if swaps is out of range");
        for (int shells = 2; shells <= 8; shells++) {
            for (int swaps : new int[] {-1, 7, LEAST, GREATEST}) {
                refused(shells(shells), ILLEGAL, "rows(" + swaps + ") of " + shells, x -> x.rows(swaps));
            }
        }
    }

    private static void numbersOfFool() {
        Check.sentence("fool: if what is out of range");
        for (int what : new int[] {-1, 5, LEAST, GREATEST}) {
            refused(new Watch(), ILLEGAL, "fool(" + what + ")", x -> x.fool(what));
            refused(shells(8), ILLEGAL, "fool(" + what + ") of 8", x -> x.fool(what));
        }
        fool(new Watch(), 1, 0, 1, 1, 5);
        fool(shells(2), 1, 0, 1, 1, 5);
        fool(Check.loaded("shells 8;ball 7;"), 1, 0, 7, 1, 5);
        fool(Check.loaded("shells 2;trust 99;"), 1, 0, 1, 1, 100);
        fool(Check.loaded("shells 2;trust 1;"), 0, 0, 1, 1, 100);
    }

    private static void foolsOfTheSameChance() {
        Check.sentence("of several a swap is ahead of a feint, then the one with the smaller a, then with the"
                + " smaller b");
        fool(Check.loaded("shells 2;trust 50;"), 0, 0, 1, 1, 2);
        fool(Check.loaded("shells 3;trust 50;"), 0, 0, 1, 1, 2);
        fool(Check.loaded("shells 4;trust 50;ball 3;"), 0, 0, 3, 1, 2);
        fool(Check.loaded("shells 4;trust 50;ball 2;"), 0, 0, 2, 1, 2);
        fool(Check.loaded("shells 8;trust 50;ball 7;scratch 6 7;"), 0, 6, 7, 1, 2);
        fool(Check.loaded("shells 4;ball 2;trust 49;"), 0, 0, 2, 49, 100);
        fool(Check.loaded("shells 4;ball 2;trust 51;"), 1, 0, 2, 49, 100);
        // Each step is betrayed, or does not move the ball.
        fool(Check.loaded("shells 4;ball 2;scratch 2;"), 0, 0, 1, 1, 1);
        fool(Check.loaded("shells 2;scratch 0;"), 0, 0, 1, 1, 1);
        Check.sentence("chance() of the place of the ball (of the hand, if it is there)");
        // 4, 1 and 1: each step leaves 1 of 6 to the hand.
        fool(played("shells 2;sly 1;blink 0 0;", "steal 0;"), 0, 0, 1, 5, 30);
    }

    private static void foolsOfGreatBeliefs() {
        Check.sentence("(compared exactly, not as a double");
        // As ints the products would wrap around.
        fool(played("shells 2;trust 32;", "feint 0 1;swap 0 1;rest;swap 1 0;"), 0, 0, 1, 192032, 390625);
        fool(played("shells 4;trust 74;", "swap 3 1;feint 0 1;swap 3 0;"), 1, 2, 3, 6253, 125000);
        // As floats a smaller b would be as good.
        fool(played("shells 4;trust 21;", "feint 0 3;swap 1 0;feint 1 2;rest;feint 2 0;"), 0, 2, 3, 159987, 1220706);
        fool(played("shells 3;trust 1;calm 9;blink 0 2;", "feint 1 0;rest;feint 0 2;feint 2 1;feint 0 1;swap 2 0;"),
                1, 1, 2, 236263, 1200002);
    }

    private static void foolsAtBlinks() {
        Check.sentence("at a blink as told of it");
        fool(Check.loaded("shells 3;blink 0 0;"), 0, 0, 1, 1, 4);
        fool(Check.loaded("shells 3;blink 1 9;"), 1, 0, 1, 1, 5);
        fool(Check.loaded("shells 3;calm 9;blink 0 0;"), 0, 0, 1, 1, 12);
        fool(Check.loaded("shells 3;scratch 0;blink 0 0;"), 0, 0, 1, 1, 1);
        fool(Check.loaded("shells 3;scratch 1 2;ball 1;blink 0 0;"), 0, 1, 2, 1, 2);
        Watch watch = new Watch();
        watch.blink(0, 0);
        fool(watch, 0, 0, 1, 1, 4);
        watch.undo();
        fool(watch, 1, 0, 1, 1, 5);
    }

    private static void stepsOfCaught() {
        Check.sentence("caught: steps: 1 to 20");
        for (int steps : new int[] {0, -1, 21, LEAST, GREATEST}) {
            refused(new Watch(), ILLEGAL, "caught(" + steps + ")", x -> x.caught(steps));
        }
        // The watcher follows each swap of a scratched shell with a smooth one.
        Watch sure = Check.loaded("shells 2;scratch 1;");
        for (int steps = 1; steps <= 20; steps++) {
            Check.is("caught(" + steps + ")", sure.caught(steps), steps);
        }
        Check.is("fooled by one step", new Watch().caught(1), 0);
        Check.is("no step is made", sure.state(1), 0);
    }

    private static void caughtAtBlinks() {
        Check.sentence("Foretells a shuffle in which each step is the one that fool() finds then.");
        String[] setups = {"shells 3;", "shells 2;trust 50;", "shells 8;ball 7;trust 51;calm 3;sly 2;blink 1 9;",
            "shells 4;trust 30;blink 19 19;", "shells 4;trust 30;blink 0 0;", "shells 5;trust 60;blink 2 3;scratch 4;",
            "shells 3;trust 99;blink 0 18;", "shells 6;ball 2;scratch 1 2 3;calm 9;blink 3 3;blink 5 9;"};
        for (String setup : setups) {
            Watch foretold = Check.loaded(setup);
            Watch made = Check.loaded(setup);
            int times = 0;
            for (int steps = 1; steps <= 20; steps++) {
                int a = made.fool(1);
                int b = made.fool(2);
                Check.is("blinked", made.fool(0) == 0 ? made.swap(a, b) : made.feint(a, b), foretold.blinks(steps - 1));
                times += made.guess() == made.state(2) ? 1 : 0;
                Check.is("caught(" + steps + ") of " + setup, foretold.caught(steps), times);
            }
        }
    }

    private static void caughtWithTheBallInTheHand() {
        Check.sentence("behind how many of these steps the ball would be under the shell at guess()");
        Watch hand = played("shells 2;sly 1;blink 0 0;", "steal 0;");
        Check.is("the ball is under no shell", hand.caught(20), 0);
        Watch known = played("shells 2;sly 1;blink 0 0;", "steal 0;peek 0;peek 1;");
        Check.is("the hand is guessed", known.caught(20), 0);
    }

    private static void suspects() {
        Check.sentence("of those whose belief is more than 0 .. if there are not so many");
        for (int shells = 2; shells <= 8; shells++) {
            Watch watch = Check.loaded("shells " + shells + ";sly 1;blink 0 0;");
            Check.is("suspect(0)", watch.suspect(0), 0);
            refused(watch, NONE, "suspect(1) of one", x -> x.suspect(1));
            watch.rest();
            for (int k = 0; k <= shells; k++) {
                Check.is("suspect(" + k + ") of " + shells, watch.suspect(k), k);
            }
            for (int k : new int[] {shells + 1, shells + 2, -1, LEAST, GREATEST}) {
                refused(watch, NONE, "suspect(" + k + ") of " + shells, x -> x.suspect(k));
            }
        }
    }

    private static void suspectsOfTheSameBelief() {
        Check.sentence("(the hand counts as the last place; of several the smallest one is ahead)");
        Watch few = played("shells 5;ball 2;sly 1;blink 0 0;", "rest;");
        Check.is("beliefs", Check.beliefs(few), "1 1 16 1 1 1");
        int[] due = {2, 0, 1, 3, 4, 5};
        for (int k = 0; k < due.length; k++) {
            Check.is("suspect(" + k + ")", few.suspect(k), due[k]);
        }
        Watch hand = played("shells 3;sly 9;blink 0 0;", "steal 0;peek 0;");
        Check.is("beliefs with the hand", Check.beliefs(hand), "0 1 1 9");
        Check.is("the hand is the greatest", hand.suspect(0), 3);
        Check.is("the next one", hand.suspect(1), 1);
        Check.is("the last one", hand.suspect(2), 2);
        refused(hand, NONE, "a place that is not believed in", x -> x.suspect(3));
    }

    // ---- what changes

    private static void equalPlaces() {
        Check.sentence("if a and b are equal");
        for (int shells : new int[] {2, 8}) {
            Watch watch = shells(shells);
            for (int place = 0; place < shells; place++) {
                int same = place;
                refused(watch, ILLEGAL, "swap of the same", x -> x.swap(same, same));
                refused(watch, ILLEGAL, "feint of the same", x -> x.feint(same, same));
            }
        }
        Watch watch = shells(8);
        Check.is("both orders are fine", watch.swap(7, 0), false);
        Check.is("both orders are fine", watch.swap(0, 7), false);
        Check.is("the row", Check.row(watch), "01234567");
        Check.is("the swaps of a shell", watch.shell(7, 2), 2);
    }

    private static void scratches() {
        Check.sentence("Scratches a shell, or makes it smooth (the beliefs stay). .. whether it was scratched before.");
        Watch watch = played("shells 8;", "swap 0 7;");
        for (int place : new int[] {0, 7}) {
            Check.is("smooth as it was", watch.scratch(place, false), false);
            Check.is("scratch", watch.scratch(place, true), false);
            Check.is("scratch again", watch.scratch(place, true), true);
            Check.is("scratched", watch.shell(place, 1), 1);
            Check.is("smooth", watch.scratch(place, false), true);
            Check.is("smooth again", watch.scratch(place, false), false);
            Check.is("is smooth", watch.shell(place, 1), 0);
        }
        Check.is("the beliefs", Check.beliefs(watch), "1 0 0 0 0 0 0 4 0");
        for (int place = 0; place < 8; place++) {
            Check.is("all can be scratched", watch.scratch(place, true), false);
        }
        Watch same = played("shells 2;trust 74;", "swap 0 1;feint 0 1;swap 0 1;feint 0 1;swap 0 1;");
        same.scratch(0, true);
        Check.is("the beliefs are not divided", Check.beliefs(same), "594800 625904 0");
        Check.is("no step", same.state(1), 5);
    }

    private static void toldBlinks() {
        Check.sentence("first: its first step, 0 to 9999; last: its last step, first to 9999");
        int[][] wrong = {{-1, 0}, {-1, -1}, {-1, 9999}, {10000, 10000}, {10000, 9999}, {10000, 0}, {0, 10000},
            {9999, 10000}, {1, 0}, {9999, 9998}, {0, -1}, {LEAST, 0}, {0, LEAST}, {GREATEST, GREATEST}, {0, GREATEST},
            {LEAST, GREATEST}};
        for (int[] w : wrong) {
            refused(new Watch(), ILLEGAL, "blink(" + w[0] + ", " + w[1] + ")", x -> x.blink(w[0], w[1]));
        }
        int[][] right = {{0, 0}, {0, 9999}, {9999, 9999}, {1, 9999}, {5, 6}};
        for (int[] r : right) {
            Watch watch = new Watch();
            Check.is("blink(" + r[0] + ", " + r[1] + ")", watch.blink(r[0], r[1]), 1);
            for (int step : new int[] {0, 1, 4, 5, 6, 7, 9998, 9999, 10000}) {
                Check.is("blinks(" + step + ")", watch.blinks(step), step >= r[0] && step <= r[1]);
            }
        }
        Watch ahead = new Watch();
        ahead.rest();
        ahead.blink(0, 0);
        Check.is("a blink of a step that was made", ahead.rest(), false);
        Check.is("at which the watcher did not blink", ahead.state(3), 0);
    }

    private static void eightToldBlinks() {
        Check.sentence("blink: if there are 8");
        Watch watch = new Watch();
        for (int i = 1; i <= 8; i++) {
            Check.is("blink " + i, watch.blink(10 * i, 10 * i + 1), i);
            Check.is("blinks told", watch.state(12), i);
        }
        refused(watch, NOT_NOW, "a 9th blink", x -> x.blink(0, 9999));
        refused(watch, NOT_NOW, "a 9th blink as one told", x -> x.blink(10, 11));
        Check.is("the first one", watch.blinks(10), true);
        Check.is("the last one", watch.blinks(81), true);
        Check.is("undo of the 8th", watch.undo(), 7);
        Check.is("it is told no more", watch.blinks(81), false);
        Check.is("the 8th again", watch.blink(0, 0), 8);
        Check.is("a load forgets them", Check.load(watch, "shells 3;"), 3);
        Check.is("the first one again", watch.blink(0, 0), 1);
    }

    private static void stealsAndPlants() {
        Check.sentence("if the watcher does not blink at this step, sly is 0, or the ball is not there");
        Watch watch = Check.loaded("shells 3;ball 1;sly 1;blink 1 9;");
        refused(watch, NOT_NOW, "steal at no blink", x -> x.steal(1));
        watch.rest();
        refused(watch, NOT_NOW, "steal beside the ball", x -> x.steal(0));
        refused(watch, NOT_NOW, "steal beside the ball", x -> x.steal(2));
        refused(watch, NOT_NOW, "plant of a ball under a shell", x -> x.plant(1));
        Check.is("steal", watch.steal(1), watch.state(10));
        refused(watch, NOT_NOW, "steal of a ball in the hand", x -> x.steal(1));
        Check.sentence("sly is 0, or the ball is not in the hand");
        Check.is("plant", watch.plant(2), watch.state(10));
        refused(watch, NOT_NOW, "plant of a ball planted", x -> x.plant(2));
        Check.is("steps", watch.state(1), 3);
        refused(Check.loaded("shells 3;sly 0;blink 0 9;"), NOT_NOW, "steal without sly", x -> x.steal(0));
    }

    // ---- undo

    private static void undoOfNothing() {
        Check.sentence("-1 if there was none to undo, and nothing changes then.");
        Watch watch = new Watch();
        String view = Check.view(watch);
        Check.is("undo of nothing", watch.undo(), -1);
        Check.is("undo of nothing again", watch.undo(), -1);
        Check.is("the object", Check.view(watch), view);
        watch.rest();
        Check.is("undo of one", watch.undo(), 0);
        Check.is("undo of nothing more", watch.undo(), -1);
        Check.is("the object", Check.view(watch), view);
    }

    private static void undoOfEight() {
        Check.sentence("The latest 8 changes can be undone, the latest one first");
        for (int changes : new int[] {1, 2, 7, 8, 9, 10, 16, 17, 18, 25, 26, 27, 28, 100}) {
            Watch watch = new Watch();
            String[] games = new String[changes + 1];
            games[0] = Check.game(watch);
            for (int i = 1; i <= changes; i++) {
                watch.swap(i % 3, (i + 1) % 3);
                games[i] = Check.game(watch);
            }
            int most = Math.min(changes, 8);
            for (int i = 1; i <= most; i++) {
                Check.is("undo " + i + " of " + changes, watch.undo(), most - i);
                Check.is("the game", Check.game(watch), games[changes - i]);
            }
            Check.is("undo of what is final", watch.undo(), -1);
            Check.is("the game", Check.game(watch), games[changes - most]);
        }
    }

    private static void changesThatAreFinal() {
        Check.sentence("a change is final as soon as 8 later ones, none of them undone, have been made.");
        Watch watch = new Watch();
        for (int i = 0; i < 8; i++) {
            watch.rest();
        }
        for (int i = 0; i < 20; i++) {
            Check.is("undo of the latest", watch.undo(), 7);
            watch.feint(0, 1);
        }
        Watch first = watch.twin();
        for (int i = 7; i >= 0; i--) {
            Check.is("none is final: " + i, first.undo(), i);
        }
        Check.is("the first of all", first.state(1), 0);
        watch.rest();
        for (int i = 7; i >= 0; i--) {
            Check.is("the first is final: " + i, watch.undo(), i);
        }
        Check.is("no more", watch.undo(), -1);
        Check.is("the first stays", watch.state(1), 1);
        watch.rest();
        watch.rest();
        Check.is("what comes behind", watch.undo(), 1);
        Check.is("what comes behind", watch.undo(), 0);
        Check.is("no more again", watch.undo(), -1);
    }

    private static void eachChangingMethod() {
        Check.sentence("The changing methods are load and run .., swap, feint, rest, steal, plant, peek, bet,"
                + " scratch and blink");
        changes("load", x -> Check.load(x, "shells 8;ball 7;trust 1;calm 2;sly 3;purse 4;scratch 5;blink 6 7;odds 8;"));
        changes("run", x -> Check.run(x, "swap 0 1;rest;peek 0;steal 1;"));
        changes("swap", x -> x.swap(0, 1));
        changes("feint", x -> x.feint(0, 1));
        changes("rest", Watch::rest);
        changes("steal", x -> x.steal(0));
        changes("peek", x -> x.peek(1));
        changes("bet", x -> x.bet(1, 1));
        changes("scratch", x -> x.scratch(1, true));
        changes("smooth", x -> x.scratch(2, false));
        changes("blink", x -> x.blink(5, 9));
        changes("plant", played("shells 3;sly 1;blink 0 9;scratch 2;", "rest;steal 0;"), x -> x.plant(1));
    }

    private static void changes(String what, Function<Watch, ?> call) {
        changes(what, played("shells 3;sly 1;blink 0 9;scratch 2;", "rest;"), call);
    }

    /** The call is one change, also as the 9th one. */
    private static void changes(String what, Watch watch, Function<Watch, ?> call) {
        String game = Check.game(watch);
        Watch other = watch.twin();
        int left = watch.twin().undo() + 1;
        call.apply(other);
        Check.is(what + " changes the game", Check.game(other).equals(game), false);
        Check.is(what + " is a change", other.undo(), left);
        Check.is(what + " is undone", Check.game(other), game);
        Watch full = watch.twin();
        for (int i = 0; i < 8; i++) {
            full.scratch(0, i % 2 == 0);
        }
        call.apply(full);
        Check.is(what + " behind 8 changes", full.undo(), 7);
        Check.is(what + " is undone behind 8 changes", Check.game(full), game);
        for (int i = 6; i >= 0; i--) {
            Check.is("the changes ahead of " + what, full.undo(), i);
        }
        Check.is("no more ahead of " + what, full.undo(), -1);
    }

    private static void changesThatChangeNothing() {
        Check.sentence("each such call that does not throw an exception is one change, also if all data stay"
                + " as they were.");
        sameGame("run of nothing", x -> x.run(0));
        sameGame("run of an early end", x -> Check.run(x, "swap 0 0;rest;"));
        sameGame("run of empty repeats", x -> Check.run(x, "repeat 20(repeat 20(repeat 20();););"));
        sameGame("load of the same", x -> Check.load(x, "shells 3;"));
        sameGame("peek at what is known", x -> x.peek(0));
        sameGame("peek at no belief", x -> x.peek(2));
        sameGame("smooth as it was", x -> x.scratch(1, false));
        Watch zero = Check.loaded("shells 3;scratch 1;odds 0;");
        zero.bet(0, 1);
        Check.is("a bet won by odds of 0", zero.undo(), 1);
        zero.scratch(1, true);
        Check.is("a scratch as it was", zero.undo(), 1);
    }

    private static void sameGame(String what, Function<Watch, ?> call) {
        Watch watch = new Watch();
        String game = Check.game(watch);
        call.apply(watch);
        Check.is(what + " leaves the game", Check.game(watch), game);
        call.apply(watch);
        Check.is(what + " is a change each time", watch.undo(), 1);
        Check.is(what + " is a change", watch.undo(), 0);
        Check.is(what + " is no more than that", watch.undo(), -1);
    }

    private static void callsThatAreNoChanges() {
        Check.sentence("load and run (when the text has no error)");
        Watch watch = Check.loaded("shells 3;blink 1 2;");
        watch.swap(0, 1);
        int calls = watch.calls();
        String view = Check.view(watch);
        for (int what = 0; what <= 4; what++) {
            watch.fool(what);
        }
        watch.state(0);
        watch.shell(0, 0);
        watch.belief(0);
        watch.chance(0);
        watch.doubt();
        watch.guess();
        watch.blinks(0);
        watch.odds(0);
        watch.fewest();
        watch.rows(6);
        watch.caught(20);
        watch.suspect(0);
        watch.errorOffset();
        watch.checksum();
        Check.is("calls", watch.calls() - calls, 19);
        Check.is("what is asked", Check.view(watch), view);
        Check.load(watch, "shells 3");
        Check.run(watch, "rest");
        watch.append(0, 0, 0, 0, 0);
        Check.is("errors and bytes", watch.undo(), 1);
    }

    private static void refusedBehindEightChanges() {
        Check.sentence("A method that throws an exception changes nothing.");
        Watch watch = Check.loaded("shells 3;purse 5;blink 0 0;blink 0 0;blink 0 0;blink 0 0;blink 0 0;");
        for (int i = 0; i < 3; i++) {
            watch.swap(0, 1);
            watch.blink(30 + i, 40);
            watch.scratch(2, i == 0);
        }
        Check.load(watch, "x");
        watch.append(1, 2, 3, 4, 5);
        refused(watch, ILLEGAL, "load", x -> x.load(21));
        refused(watch, ILLEGAL, "run", x -> x.run(-1));
        refused(watch, ILLEGAL, "swap", x -> x.swap(1, 1));
        refused(watch, NO_PLACE, "swap", x -> x.swap(1, 3));
        refused(watch, ILLEGAL, "feint", x -> x.feint(1, 1));
        refused(watch, NO_PLACE, "feint", x -> x.feint(3, 1));
        refused(watch, NOT_NOW, "steal", x -> x.steal(0));
        refused(watch, NOT_NOW, "plant", x -> x.plant(0));
        refused(watch, NO_PLACE, "peek", x -> x.peek(3));
        refused(watch, NOT_NOW, "bet", x -> x.bet(0, 6));
        refused(watch, ILLEGAL, "bet", x -> x.bet(0, 0));
        refused(watch, NO_PLACE, "scratch", x -> x.scratch(3, true));
        refused(watch, NOT_NOW, "blink", x -> x.blink(1, 1));
        refused(watch, ILLEGAL, "blink", x -> x.blink(1, 0));
        refused(watch, NONE, "suspect", x -> x.suspect(4));
        refused(watch, ILLEGAL, "rows", x -> x.rows(7));
        refused(watch, ILLEGAL, "caught", x -> x.caught(21));
    }

    private static void undoLeavesTheBuffer() {
        Check.sentence("The input buffer and the error offset are not affected.");
        Watch watch = new Watch();
        Check.run(watch, "rest;");
        Check.load(watch, "shells 4;x");
        Check.put(watch, "shells 5;");
        Check.is("undo", watch.undo(), 0);
        Check.is("error offset", watch.errorOffset(), 9);
        Check.is("undo of nothing", watch.undo(), -1);
        Check.is("error offset", watch.errorOffset(), 9);
        Check.is("bytes appended ahead of undo", watch.load(9), 5);
        Check.put(watch, "shells 6;");
        watch.undo();
        Check.is("error offset of none", watch.errorOffset(), -1);
        Check.is("bytes appended ahead of undo", watch.load(9), 6);
    }

    private static void loadsReplaceAll() {
        Check.sentence("Reads the first bytes .. and replaces all data by it; no step was made.");
        Watch watch = played("shells 8;ball 7;scratch 0 7;trust 9;calm 9;sly 9;purse 99;blink 0 99;odds 9;",
                "swap 7 0;steal 0;rest;");
        watch.bet(1, 1);
        watch.peek(2);
        watch.plant(3);
        watch.bet(3, 1);
        Check.load(watch, "shells 3;");
        Check.is("game", Check.game(watch), Check.game(new Watch()));
        Check.load(watch, "shells 8;");
        Check.is("game of 8", Check.game(watch), Check.game(shells(8)));
        Check.is("undo of a load", watch.undo(), 7);
        Check.is("game of 3", Check.game(watch), Check.game(new Watch()));
    }

    private static void loadsBehindForetelling() {
        Check.sentence("replaces all data by it; no step was made: also what was just foretold");
        Watch watch = played("shells 8;ball 7;scratch 6;sly 9;purse 99;blink 0 99;odds 9;", "swap 7 0;swap 1 2;");
        watch.bet(0, 1);
        watch.bet(1, 1);
        watch.caught(20);
        watch.fool(4);
        watch.rows(6);
        Check.load(watch, "shells 8;");
        Check.is("game of 8", Check.game(watch), Check.game(shells(8)));
        watch.caught(20);
        Check.load(watch, "shells 2;ball 1;");
        Check.is("game of 2", Check.game(watch), Check.game(Check.loaded("shells 2;ball 1;")));
    }

    private static void loadsOfOtherNumbersOfShells() {
        Check.sentence("The latest 8 changes can be undone: loads of more and of fewer shells");
        int[] shells = {8, 2, 7, 3, 6, 4, 5, 8, 2, 8};
        Watch watch = new Watch();
        String[] games = new String[shells.length];
        for (int i = 0; i < shells.length; i++) {
            Check.load(watch, "shells " + shells[i] + ";ball 1;scratch " + i % 2 + ";odds " + i % 9 + ";sly 1;");
            games[i] = Check.game(watch);
        }
        for (int i = shells.length - 2; i >= 1; i--) {
            Check.is("undo to load " + i, watch.undo(), i - 1);
            Check.is("game of " + shells[i], Check.game(watch), games[i]);
        }
        Check.is("no more", watch.undo(), -1);
    }

    private static void checksumsWrapAround() {
        Check.sentence("each number n in the following order replaces it by 31 * checksum + n, wrapping around"
                + " on overflow");
        for (String setup : new String[] {"shells 2;",
            "shells 8;ball 7;scratch 0 7;trust 99;sly 9;purse 9999;blink 0 1;"}) {
            Watch watch = played(setup, "swap 0 1;feint 1 0;rest;");
            BigInteger sum = BigInteger.ZERO;
            for (int what = 0; what <= 12; what++) {
                sum = next(sum, watch.state(what));
            }
            for (int place = 0; place < watch.state(0); place++) {
                for (int what = 0; what <= 3; what++) {
                    sum = next(sum, watch.shell(place, what));
                }
                sum = next(sum, watch.belief(place));
            }
            sum = next(sum, watch.belief(watch.state(0)));
            Check.is("more than a long holds", sum.bitLength() > 64, true);
            Check.is("checksum", watch.checksum(), sum.longValue());
        }
    }

    private static BigInteger next(BigInteger sum, int n) {
        return sum.multiply(BigInteger.valueOf(31)).add(BigInteger.valueOf(n));
    }

    // ---- the end of an object's use

    private static void fiveHundredAndTwelveCalls() {
        Check.sentence("An object is used for at most 512 calls after it has been made");
        Watch rests = new Watch();
        for (int i = 1; i < Watch.MOST_CALLS; i++) {
            rests.rest();
        }
        Check.is("the 512th call", rests.state(1), 511);
        Watch undone = new Watch();
        for (int i = 1; i < Watch.MOST_CALLS; i++) {
            undone.swap(0, 1);
        }
        Check.is("undo as the 512th call", undone.undo(), 7);
        Watch bytes = new Watch();
        for (int i = 1; i < Watch.MOST_CALLS; i++) {
            bytes.append(i, i, i, i, i);
        }
        Check.is("append as the 512th call", bytes.append(0, 0, 0, 0, 0), -1);
        Watch again = new Watch();
        for (int i = 0; i < Watch.MOST_CALLS / 2; i++) {
            again.scratch(i % 3, true);
            Check.is("undo of each change", again.undo(), 0);
        }
    }

    private static void manySteps() {
        Check.sentence("blink: 0 to 9999 .. blinks: 0 to 20000");
        Watch watch = Check.loaded("shells 2;blink 9999 9999;odds steps/1000-5;");
        for (int i = 0; i < 49; i++) {
            Check.is("200 steps", Check.run(watch, "repeat 20(repeat 10(swap 0 1;););"), 200);
        }
        Check.is("199 steps", Check.run(watch, "repeat 20(repeat 9(rest;););repeat 19(rest;);"), 199);
        Check.is("steps", watch.state(1), 9999);
        Check.is("odds at step 9999", watch.odds(0), 4);
        Check.is("step 9999", watch.rest(), true);
        Check.is("odds at step 10000", watch.odds(0), 5);
        Check.is("step 10000", watch.rest(), false);
        Check.is("steps at which the watcher blinked", watch.state(3), 1);
        for (int i = 0; i < 60; i++) {
            Check.is("200 steps more", Check.run(watch, "repeat 20(repeat 10(swap 0 1;););"), 200);
        }
        Check.is("all steps", watch.state(1), 22001);
        Check.is("moves of a shell", watch.shell(0, 2), 21800);
        Check.is("the next step", watch.feint(0, 1), false);
        Check.is("undo of it", watch.undo(), 7);
        Check.is("undo of 200 steps", watch.undo(), 6);
        Check.is("steps left", watch.state(1), 21801);
    }
}
