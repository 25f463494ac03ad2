/** The bounds that the document names for belief, blinks, peeks, bets and odds: each sentence by itself. */
final class WatcherBoundsTest {
    private static final Class<?> NOT_NOW = IllegalStateException.class;
    private static final Class<?> ILLEGAL = IllegalArgumentException.class;

    public static void main(String[] args) {
        firstBeliefs();
        trustBounds();
        trustOfTheHand();
        oneScratchOfTwo();
        restsWithoutABlink();
        calmBounds();
        slyBounds();
        slyOfTheHand();
        likeShellsAtABlink();
        unlikeShellsAtABlink();
        rangesOfBlinks();
        stealsAtBlinks();
        plantsAtBlinks();
        stealsAndPlantsNeedSly();
        commonDivisors();
        commonDivisorsWhereBeliefsStay();
        halvedAboveAMillion();
        halvedOften();
        peekAtTheBall();
        peekBesideTheBall();
        peekWithTheBallInTheHand();
        peekDivides();
        ballIsAlwaysBelieved();
        betsBoundsOfStakes();
        betsWithTheBallInTheHand();
        purseBounds();
        betsAreAheadOfThePeek();
        oddsBounds();
        oddsWithoutAStatement();
        oddsInParentheses();
        divisionByZero();
        fromTheLeftToTheRight();
        resultsWithinBounds();
        chanceOfOdds();
        stepsAndBlinksOfOdds();
        Check.finish();
    }

    // ---- what the sentences share

    private static void beliefs(Watch watch, String due) {
        Check.is("beliefs", Check.beliefs(watch), due);
    }

    /** The beliefs behind a setup and a script. */
    private static Watch played(String setup, String script, String due) {
        Watch watch = Check.loaded(setup);
        Check.run(watch, script);
        Check.is("beliefs of '" + setup + "' behind '" + script + "'", Check.beliefs(watch), due);
        return watch;
    }

    private static void odds(String sum, int due) {
        Check.is("odds " + sum, Check.loaded("shells 5;odds " + sum + ";").odds(4), due);
    }

    // ---- belief

    private static void firstBeliefs() {
        Check.sentence("at first this is 1 at the place of the ball, and 0 at all others.");
        for (int shells = 2; shells <= 8; shells++) {
            for (int ball = 0; ball < shells; ball++) {
                Watch watch = Check.loaded("shells " + shells + ";ball " + ball + ";");
                for (int at = 0; at <= shells; at++) {
                    Check.is("belief " + at + " with the ball at " + ball, watch.belief(at), at == ball ? 1 : 0);
                }
                Check.is("ball", watch.state(2), ball);
            }
        }
    }

    private static void trustBounds() {
        Check.sentence("that of a becomes its own one * (100 - trust) + that of b * trust, that of b likewise");
        played("shells 2;trust 1;", "swap 0 1;", "99 1 0");
        played("shells 2;trust 99;", "swap 0 1;", "1 99 0");
        played("shells 2;trust 50;", "swap 0 1;", "1 1 0");
        played("shells 2;trust 1;", "feint 0 1;", "99 1 0");
        played("shells 2;trust 99;", "feint 1 0;", "1 99 0");
        played("shells 8;ball 7;trust 99;", "swap 7 0;", "99 0 0 0 0 0 0 1 0");
        // 99 + 99 by 9802: 99 * 99 + 1 and 2 * 99, both by 2
        played("shells 2;trust 99;", "swap 0 1;swap 0 1;", "4901 99 0");
        Check.sentence("and all others become 100 times as much");
        played("shells 3;trust 99;", "swap 0 1;swap 1 2;", "100 99 9801 0");
    }

    private static void trustOfTheHand() {
        Check.sentence("all others become 100 times as much: the hand, too");
        // 4 * 20 + 80, 20 + 4 * 80 and 100, by 20
        played("shells 2;sly 1;blink 0 0;", "steal 0;swap 0 1;", "8 17 5");
        played("shells 2;sly 1;blink 0 0;", "rest;feint 0 1;", "8 17 5");
        played("shells 2;sly 1;blink 0 0;", "steal 0;peek 0;peek 1;swap 0 1;", "0 0 1");
    }

    private static void oneScratchOfTwo() {
        Check.sentence("if just one of the two shells is scratched, the watcher knows which of both it was");
        String[][] due = {{"", "17 8 0", "17 8 0"}, {"scratch 0;", "4 1 0", "1 4 0"}, {"scratch 1;", "4 1 0", "1 4 0"},
            {"scratch 0 1;", "17 8 0", "17 8 0"}};
        for (String[] d : due) {
            for (int i = 0; i < 4; i++) {
                Watch watch = Check.loaded("shells 2;");
                watch.feint(0, 1);
                beliefs(watch, "1 4 0");
                watch.scratch(0, d[0].contains("0"));
                watch.scratch(1, d[0].contains("1"));
                int a = i % 2;
                Check.is("at no blink", i < 2 ? watch.swap(a, 1 - a) : watch.feint(a, 1 - a), false);
                Check.is((i < 2 ? "swap, " : "feint, ") + d[0], Check.beliefs(watch), d[i < 2 ? 1 : 2]);
            }
        }
        // A third shell that is scratched betrays nothing.
        played("shells 3;scratch 2;", "swap 0 1;", "1 4 0 0");
        // The scratch has moved to place 0.
        played("shells 3;scratch 1;", "swap 0 1;feint 0 1;swap 2 1;", "0 1 4 0");
    }

    private static void restsWithoutABlink() {
        Check.sentence("A rest at which the watcher does not blink: they stay.");
        Watch watch = played("shells 3;", "swap 0 1;swap 1 2;rest;rest;", "5 4 16 0");
        Check.is("steps", watch.state(1), 4);
        Check.is("blinks", watch.state(3), 0);
    }

    private static void calmBounds() {
        Check.sentence("that nothing was done, with the weight calm");
        played("shells 2;calm 1;blink 0 0;", "rest;", "1 1 0");
        played("shells 2;calm 9;blink 0 0;", "rest;", "9 1 0");
        played("shells 2;calm 9;blink 0 0;", "swap 0 1;", "9 1 0");
        played("shells 2;calm 9;blink 0 0;", "feint 0 1;", "9 1 0");
        // 28 swaps: 21 of them leave the place 3
        played("shells 8;ball 3;calm 9;blink 0 0;", "rest;", "1 1 1 30 1 1 1 1 0");
        played("shells 8;ball 3;calm 1;blink 0 0;", "rest;", "1 1 1 22 1 1 1 1 0");
    }

    private static void slyBounds() {
        Check.sentence("the steal from each place .. with the weight sly; the plant at each place .. with the"
                + " weight sly.");
        played("shells 2;sly 0;blink 0 0;", "rest;", "1 1 0");
        // calm, the steal from the other place, and both plants
        played("shells 2;sly 1;blink 0 0;", "rest;", "4 1 1");
        played("shells 2;sly 9;blink 0 0;", "rest;", "28 1 9");
        played("shells 2;calm 9;sly 9;blink 0 0;", "rest;", "36 1 9");
        // 21 swaps, calm, 7 steals and 8 plants
        played("shells 8;ball 7;calm 9;sly 9;blink 0 0;", "rest;", "1 1 1 1 1 1 1 165 9");
    }

    private static void slyOfTheHand() {
        Check.sentence("the plant at each place (it leads the belief of the hand to this place, and all others stay)");
        String known = "steal 0;peek 0;peek 1;";
        // A swap, calm and two steals keep the hand.
        played("shells 2;sly 1;blink 0 1;", known + "rest;", "1 1 4");
        played("shells 2;sly 9;blink 0 1;", known + "rest;", "9 9 20");
        played("shells 2;calm 9;sly 1;blink 0 1;", known + "plant 1;", "1 1 12");
        // 11 * 9 + 1 + 9, 11 + 11 + 9 and 3 * 9 + 36
        played("shells 2;calm 2;sly 3;blink 0 1;", "rest;rest;", "131 31 63");
    }

    private static void likeShellsAtABlink() {
        Check.sentence("those count by which scratched shells would be at these places");
        String[][] due = {{"", "0", "2 1 1 0"}, {"scratch 0 1 2;", "0", "2 1 1 0"}, {"scratch 0;", "0", "1 0 0 0"},
            {"scratch 0;", "1", "0 1 1 0"}, {"scratch 0 1;", "2", "0 0 1 0"}, {"scratch 0 1;", "0", "1 1 0 0"},
            {"scratch 2;", "2", "0 0 1 0"}, {"scratch 1 2;", "1", "0 1 1 0"}};
        for (String[] d : due) {
            String setup = "shells 3;" + d[0] + "ball " + d[1] + ";blink 0 0;";
            played(setup, "rest;", d[2]);
        }
        // Steals and plants leave scratched shells where they are: calm, 2 steals and 3 plants, with a swap of others
        played("shells 3;scratch 0;sly 1;blink 0 0;", "rest;", "7 0 0 1");
        played("shells 3;scratch 1;sly 1;blink 0 0;", "rest;", "6 0 1 1");
    }

    private static void unlikeShellsAtABlink() {
        Check.sentence("the watcher sees at which places scratched shells are then");
        played("shells 3;scratch 0;blink 0 0;", "swap 0 1;", "0 1 0 0");
        played("shells 3;scratch 0;blink 0 0;", "feint 0 1;", "1 0 0 0");
        played("shells 3;scratch 0;ball 1;blink 0 0;", "swap 0 1;", "1 0 0 0");
        played("shells 3;scratch 0;ball 1;blink 0 0;", "feint 0 1;", "0 1 1 0");
        played("shells 3;scratch 0;ball 2;calm 9;sly 9;blink 0 0;", "swap 0 1;", "0 0 1 0");
        played("shells 3;scratch 0;ball 2;calm 9;blink 0 0;", "feint 0 1;", "0 1 9 0");
        played("shells 3;scratch 0 1;blink 0 0;", "swap 0 1;", "1 1 0 0");
        Watch watch = Check.loaded("shells 2;scratch 1;sly 2;blink 0 0;");
        Check.is("the watcher blinked", watch.swap(0, 1), true);
        beliefs(watch, "0 1 0");
    }

    // ---- blinks

    private static void rangesOfBlinks() {
        Check.sentence("a blink is a range of steps .. steps are counted from 0.");
        int[][] ranges = {{0, 0}, {0, 3}, {2, 4}, {3, 3}, {1, 9999}};
        for (int[] range : ranges) {
            Watch watch = Check.loaded("shells 3;blink " + range[0] + " " + range[1] + ";");
            int blinked = 0;
            for (int step = 0; step < 9; step++) {
                boolean isBlink = step >= range[0] && step <= range[1];
                Check.is("blinks " + step, watch.blinks(step), isBlink);
                boolean got = step % 3 == 0 ? watch.swap(0, 1) : step % 3 == 1 ? watch.feint(1, 2) : watch.rest();
                Check.is("blinked at " + step, got, isBlink);
                blinked += isBlink ? 1 : 0;
                Check.is("steps", watch.state(1), step + 1);
                Check.is("steps at which the watcher blinked", watch.state(3), blinked);
            }
        }
        Watch two = Check.loaded("shells 3;blink 1 2;blink 2 3;blink 5 5;");
        for (int step = 0; step < 7; step++) {
            Check.is("blinked at " + step, two.rest(), step != 0 && step != 4 && step != 6);
        }
    }

    private static Watch atStep(String setup, int step) {
        Watch watch = Check.loaded(setup);
        for (int i = 0; i < step; i++) {
            watch.rest();
        }
        return watch;
    }

    private static void stealsAtBlinks() {
        Check.sentence("A steal and a plant can be made only at a step at which the watcher blinks: steals");
        for (int step = 0; step < 7; step++) {
            Watch watch = atStep("shells 3;sly 1;blink 2 4;", step);
            if (step < 2 || step > 4) {
                Check.refused("steal at " + step, watch, NOT_NOW, x -> x.steal(0));
            } else {
                Check.is("steal at " + step, watch.steal(0), watch.state(10));
                Check.is("ball", watch.state(2), 3);
            }
        }
        Check.is("steal at the first of all steps", Check.loaded("shells 2;sly 1;blink 0 0;").steal(0), 6);
    }

    private static void plantsAtBlinks() {
        Check.sentence("A steal and a plant can be made only at a step at which the watcher blinks: plants");
        for (int step = 1; step < 7; step++) {
            Watch watch = Check.loaded("shells 3;sly 1;blink 0 0;blink 3 4;");
            watch.steal(0);
            for (int i = 1; i < step; i++) {
                watch.rest();
            }
            if (step < 3 || step > 4) {
                Check.refused("plant at " + step, watch, NOT_NOW, x -> x.plant(2));
            } else {
                Check.is("plant at " + step, watch.plant(2), watch.state(10));
                Check.is("ball", watch.state(2), 2);
            }
        }
    }

    private static void stealsAndPlantsNeedSly() {
        Check.sentence("and only if sly is more than 0.");
        Check.refused("steal with sly 0", Check.loaded("shells 2;sly 0;blink 0 9;"), NOT_NOW, x -> x.steal(0));
        Check.refused("steal without sly", Check.loaded("shells 2;blink 0 9;"), NOT_NOW, x -> x.steal(0));
        Check.refused("plant with sly 0", Check.loaded("shells 2;sly 0;blink 0 9;"), NOT_NOW, x -> x.plant(0));
        Watch watch = Check.loaded("shells 2;sly 1;blink 0 9;");
        Check.is("steal with sly 1", watch.steal(0), 6);
        Check.is("ball", watch.state(2), 2);
        // 4 * 4 + 1 + 1, 4 + 4 + 1 and 1 * 4 + 5
        Check.is("plant with sly 1", watch.plant(1), 2 + 1 + 1);
        beliefs(watch, "2 1 1");
        Check.is("ball", watch.state(2), 1);
    }

    // ---- the end of a step

    private static void commonDivisors() {
        Check.sentence("all beliefs are divided by their greatest common divisor");
        played("shells 2;trust 50;", "feint 0 1;", "1 1 0");
        played("shells 2;trust 60;", "feint 0 1;", "2 3 0");
        played("shells 2;trust 75;", "feint 0 1;feint 0 1;", "5 3 0");
        played("shells 8;calm 7;blink 0 0;", "rest;", "28 1 1 1 1 1 1 1 0");
        played("shells 2;calm 9;sly 3;blink 0 0;", "rest;", "18 1 3");
        // 2, 2, 2 and 10 ahead of it
        played("shells 3;sly 2;blink 0 1;", "steal 0;peek 0;peek 1;peek 2;rest;", "1 1 1 5");
    }

    private static void commonDivisorsWhereBeliefsStay() {
        Check.sentence("behind each step, also where they stay");
        String setup = "shells 2;trust 74;";
        String script = "swap 0 1;feint 0 1;swap 0 1;feint 0 1;swap 0 1;";
        // Halved four times, each a multiple of 16
        played(setup, script, "594800 625904 0");
        played(setup, script + "rest;", "37175 39119 0");
        played(setup, script + "rest;rest;", "37175 39119 0");
        Watch feint = played(setup, script, "594800 625904 0");
        feint.scratch(0, true);
        beliefs(feint, "594800 625904 0");
        feint.feint(0, 1);
        beliefs(feint, "37175 39119 0");
        Watch swap = played(setup, script, "594800 625904 0");
        swap.scratch(0, true);
        swap.swap(0, 1);
        beliefs(swap, "39119 37175 0");
        Watch blink = played(setup + "blink 5 5;", script, "594800 625904 0");
        blink.scratch(1, true);
        Check.is("at a blink", blink.feint(0, 1), true);
        beliefs(blink, "37175 39119 0");
        played("shells 2;trust 48;", "swap 0 1;swap 0 1;feint 0 1;feint 0 1;feint 0 1;", "610352 610352 0");
        played("shells 2;trust 48;", "swap 0 1;swap 0 1;feint 0 1;feint 0 1;feint 0 1;rest;", "1 1 0");
    }

    private static void halvedAboveAMillion() {
        Check.sentence("as long as the greatest one is more than 1000000, each of them becomes (belief + 1) / 2.");
        String setup = "shells 3;trust 64;";
        played(setup, "swap 2 0;feint 2 1;swap 2 0;swap 2 0;swap 2 0;", "717231 1000000 724176 0");
        played(setup, "swap 2 0;feint 2 1;swap 2 0;swap 2 0;swap 2 0;rest;", "717231 1000000 724176 0");
        // 1000001 and 999999 ahead of it
        played("shells 2;trust 49;calm 3;blink 1 1;blink 3 4;", "swap 0 1;rest;feint 0 1;rest;rest;swap 0 1;",
                "500001 500000 0");
    }

    private static void halvedOften() {
        Check.sentence("each of them becomes (belief + 1) / 2: 0 stays 0, and 1 stays 1");
        String script = "feint 0 1;feint 0 2;feint 0 3;";
        played("shells 5;trust 99;", script, "1 990000 9900 99 0 0");
        // 99000000, 990000, 9900 and 99, halved 7 times, each time rounded up
        played("shells 5;trust 99;", script + "feint 0 4;", "1 773438 7735 78 1 0");
        played("shells 8;trust 99;", script + "feint 0 4;", "1 773438 7735 78 1 0 0 0 0");
    }

    // ---- peeks

    private static void peekAtTheBall() {
        Check.sentence("if the ball is there, the belief there becomes 1, and all others 0");
        Watch watch = played("shells 3;", "swap 0 1;swap 1 2;", "5 4 16 0");
        Check.is("peek", watch.peek(2), true);
        beliefs(watch, "0 0 1 0");
        Check.is("peek again", watch.peek(2), true);
        beliefs(watch, "0 0 1 0");
        Check.is("a peek is no step", watch.state(1), 2);
        Watch little = played("shells 5;trust 99;", "feint 0 1;feint 0 2;feint 0 3;", "1 990000 9900 99 0 0");
        Check.is("peek at the least believed", little.peek(0), true);
        beliefs(little, "1 0 0 0 0 0");
    }

    private static void peekBesideTheBall() {
        Check.sentence("otherwise the belief there becomes 0, and all are divided by their greatest common divisor.");
        Watch watch = played("shells 3;", "swap 0 1;swap 1 2;", "5 4 16 0");
        Check.is("peek", watch.peek(0), false);
        beliefs(watch, "0 1 4 0");
        Check.is("peek where nothing is believed", watch.peek(0), false);
        beliefs(watch, "0 1 4 0");
        Check.is("peek at the next", watch.peek(1), false);
        beliefs(watch, "0 0 1 0");
        Check.is("a peek is no step", watch.state(1), 2);
        Watch blink = Check.loaded("shells 2;blink 0 0;");
        blink.peek(1);
        Check.is("a peek uses no blink up", blink.rest(), true);
    }

    private static void peekWithTheBallInTheHand() {
        Check.sentence("otherwise the belief there becomes 0: with the ball in the hand");
        for (int shells = 2; shells <= 8; shells++) {
            Watch watch = Check.loaded("shells " + shells + ";sly 1;blink 0 0;");
            watch.steal(0);
            for (int place = 0; place < shells; place++) {
                Check.is("peek at " + place, watch.peek(place), false);
                Check.is("belief there", watch.belief(place), 0);
            }
            Check.is("belief of the hand", watch.belief(shells), 1);
            Check.is("sum of beliefs", watch.state(10), 1);
        }
    }

    private static void peekDivides() {
        Check.sentence("and all are divided by their greatest common divisor: where nothing is believed, too");
        Watch watch = played("shells 3;trust 87;", "feint 2 0;swap 0 2;feint 2 0;feint 2 0;feint 0 2;",
                "474915 0 745791 0");
        Check.is("peek", watch.peek(1), false);
        beliefs(watch, "158305 0 248597 0");
    }

    private static void ballIsAlwaysBelieved() {
        Check.sentence("That of the place of the ball is always above 0.");
        String[] setups = {"shells 2;trust 1;", "shells 8;trust 99;", "shells 5;trust 99;scratch 1 3;",
            "shells 8;trust 1;sly 9;calm 9;blink 0 50;", "shells 3;sly 1;blink 0 9999;scratch 0;"};
        for (String setup : setups) {
            Watch watch = Check.loaded(setup);
            int shells = watch.state(0);
            for (int i = 0; i < 60; i++) {
                int a = i * 5 % shells;
                int b = (a + 1 + i % (shells - 1)) % shells;
                int ball = watch.state(2);
                if (i % 7 == 3) {
                    Check.answer(watch, x -> ball < shells ? x.steal(ball) : x.plant(a));
                } else if (i % 3 == 0) {
                    watch.feint(a, b);
                } else {
                    watch.swap(a, b);
                }
                Check.is("belief of the ball is above 0", watch.belief(watch.state(2)) > 0, true);
            }
        }
    }

    // ---- bets

    private static void betsBoundsOfStakes() {
        Check.sentence("stake: 1 to 999");
        Watch watch = Check.loaded("shells 3;purse 9999;");
        for (int stake : new int[] {0, -1, 1000, Integer.MIN_VALUE, Integer.MAX_VALUE}) {
            Check.refused("bet(0, " + stake + ")", watch, ILLEGAL, x -> x.bet(0, stake));
        }
        Check.is("the least stake", watch.bet(1, 1), 9998);
        Check.is("the greatest stake", watch.bet(1, 999), 8999);
        Check.sentence("if the purse is less than the stake");
        for (int purse : new int[] {1, 10, 998, 999}) {
            Watch poor = Check.loaded("shells 3;purse " + purse + ";");
            if (purse < 999) {
                Check.refused("bet of more than " + purse, poor, NOT_NOW, x -> x.bet(1, purse + 1));
            }
            Check.is("bet of all of " + purse, poor.bet(1, purse), 0);
            Check.refused("bet of an empty purse", poor, NOT_NOW, x -> x.bet(0, 1));
            Check.refused("bet of too much, with an empty purse", poor, ILLEGAL, x -> x.bet(0, 1000));
        }
        Check.refused("bet of a purse told as 0", Check.loaded("shells 3;purse 0;"), NOT_NOW, x -> x.bet(0, 1));
    }

    private static void betsWithTheBallInTheHand() {
        Check.sentence("if the ball is there, .. otherwise smaller by the stake: with the ball in the hand");
        Watch watch = Check.loaded("shells 3;sly 1;blink 0 0;odds 9;");
        watch.steal(0);
        for (int place = 0; place < 3; place++) {
            Check.is("bet on " + place, watch.bet(place, 10), 90 - 10 * place);
        }
        Check.is("bets that were won", watch.state(8), 0);
        Check.is("bets that were lost", watch.state(9), 3);
        beliefs(watch, "0 0 0 1");
    }

    private static void purseBounds() {
        Check.sentence("the purse becomes greater by the stake times the odds (but not more than 1000000)");
        Watch watch = Check.loaded("shells 2;purse 9999;odds 9;");
        for (int i = 1; i <= 110; i++) {
            Check.is("purse behind bet " + i, watch.bet(0, 999), 9999 + 8991 * i);
        }
        Check.is("purse ahead of the bound", watch.bet(0, 110), 999999);
        Check.is("purse beyond the bound", watch.twin().bet(0, 1), 1000000);
        Check.is("purse far beyond the bound", watch.twin().bet(0, 999), 1000000);
        Check.is("a bet lost", watch.bet(1, 8), 999991);
        Check.is("purse at the bound", watch.bet(0, 1), 1000000);
        Check.is("purse at the bound again", watch.bet(0, 1), 1000000);
        Check.sentence("otherwise smaller by the stake");
        Check.is("a bet lost at the bound", watch.bet(1, 1), 999999);
        Check.is("bets that were won", watch.state(8), 113);
        Check.is("bets that were lost", watch.state(9), 2);
    }

    private static void betsAreAheadOfThePeek() {
        Check.sentence("the value of an expression, as it is ahead of that");
        Watch watch = Check.loaded("shells 3;odds chance/20;");
        watch.feint(0, 1);
        // 20 of 100 ahead of the peek
        Check.is("bet won", watch.bet(0, 10), 110);
        Check.sentence("and the watcher peeks under the shell.");
        beliefs(watch, "1 0 0 0");
        watch.swap(0, 2);
        Check.is("bet lost", watch.bet(0, 10), 100);
        beliefs(watch, "0 0 1 0");
        Check.is("bet of odds of 5", watch.bet(2, 10), 150);
        Check.is("a bet is no step", watch.state(1), 2);
    }

    // ---- odds

    private static void oddsBounds() {
        Check.sentence("limited to 0 to 9");
        odds("0", 0);
        odds("1", 1);
        odds("9", 9);
        odds("10", 9);
        odds("9999", 9);
        odds("0-1", 0);
        odds("0-9999", 0);
        odds("9999*9999", 9);
        odds("0-9999*9999", 0);
        Check.is("bet with odds below 0", Check.loaded("shells 3;odds 0-5;").bet(0, 10), 100);
        Check.is("bet with odds above 9", Check.loaded("shells 3;odds 10;").bet(0, 10), 190);
    }

    private static void oddsWithoutAStatement() {
        Check.sentence("Without an odds statement the odds are the number of shells less 1.");
        for (int shells = 2; shells <= 8; shells++) {
            Watch watch = Check.loaded("shells " + shells + ";");
            Check.is("odds of the first", watch.odds(0), shells - 1);
            Check.is("odds of the last", watch.odds(shells - 1), shells - 1);
            Check.is("bet won", watch.bet(0, 100), 100 * shells);
        }
        Check.is("odds of a new object", new Watch().odds(0), 2);
    }

    private static void oddsInParentheses() {
        Check.sentence("Parentheses nest at most 4 deep.");
        odds("((((7))))", 7);
        odds("9-1*(8-1*(7-1*(6-1*(5-1*2))))", 5);
        odds("9-2*(8-2*(7-2*(6-2*(5-2*1))))", 9);
        odds("1+(2*(1+(1*(1+0*9)-1)))", 3);
        odds("((((1+1)+1)+1)+1)+1", 6);
        odds("(shells-(shells-(shells-(shells-3))))*2", 6);
    }

    private static void divisionByZero() {
        Check.sentence("Division by 0 gives 0");
        odds("5/0", 0);
        odds("0/0+3", 3);
        odds("5/0+3", 3);
        odds("(0-5)/0+3", 3);
        odds("5/(shells-5)+3", 3);
        odds("5/steps+3", 3);
        odds("9999*9999/0+3", 3);
        odds("5/0*7+3", 3);
        odds("3+7/chance", 3);
        Check.sentence("Division rounds toward zero.");
        odds("19/10", 1);
        odds("5+(0-19)/10", 4);
        odds("5+19/(0-10)", 4);
        odds("(0-19)/(0-10)", 1);
        odds("5+(0-9)/10", 5);
    }

    private static void fromTheLeftToTheRight() {
        Check.sentence("the operations of one sum or term are made from the left to the right");
        odds("9-3-2", 4);
        odds("9-3+2", 8);
        odds("9-(3-2)", 8);
        odds("8/4/2", 1);
        odds("8/4*2", 4);
        odds("7/2*2", 6);
        odds("2*7/2", 7);
        odds("8/(4/2)", 4);
        odds("1+2*3", 7);
        odds("9-2*3", 3);
        odds("9-8/4", 7);
        odds("(1+2)*3", 9);
    }

    private static void resultsWithinBounds() {
        Check.sentence("the result of each one is limited to the range -1000000 to 1000000");
        odds("1000*1000/1000-995", 5);
        odds("1000*1000-1000*999-995", 5);
        odds("1000*1000+5-1000*1000", 0);
        odds("1000*1000-(1000*1000-5)", 5);
        odds("1000*1001-1000*1000", 0);
        odds("1000*999+1000+5-1000*1000", 0);
        odds("0-1000*1000+1000*1000+5", 5);
        odds("0-1000*1000-5+1000*1000", 0);
        odds("0-1000*1000-5+1000*1000+3", 3);
        odds("0-1000*1000-(0-5)+1000*1000", 5);
        odds("(0-1000)*1001+1000*1000", 0);
        odds("(0-1000)*1001+1000*1000+4", 4);
        odds("(0-1000)*1000+1000*1000+4", 4);
        // 1000000 * 1000000 is no int.
        odds("(1000*1000)*(1000*1000)/1000/1000", 1);
        odds("(0-1000*1000)*(1000*1000)/1000/1000+4", 3);
        odds("9999*9999*9999*9999/1000/1000+1", 2);
    }

    private static void chanceOfOdds() {
        Check.sentence("chance the belief of the place times 100, divided by the sum of all beliefs");
        Watch watch = Check.loaded("shells 3;odds chance;");
        Check.is("odds of a chance of 100", watch.odds(0), 9);
        Check.is("odds of no chance", watch.odds(1), 0);
        Watch sure = Check.loaded("shells 3;odds chance-91;");
        Check.is("odds of a sure place", sure.odds(0), 9);
        Watch third = Check.loaded("shells 3;blink 0 0;odds (chance-30)*(shells-1);");
        third.rest();
        beliefs(third, "2 1 1 0");
        third.peek(2);
        beliefs(third, "2 1 0 0");
        Check.is("odds of 33 in 100", third.odds(1), 6);
        Watch twoThirds = Check.loaded("shells 3;blink 0 0;odds chance-60;");
        twoThirds.rest();
        twoThirds.peek(2);
        Check.is("odds of 66 in 100", twoThirds.odds(0), 6);
        Watch great = Check.loaded("shells 2;trust 74;odds chance-45;");
        Check.run(great, "swap 0 1;feint 0 1;swap 0 1;feint 0 1;swap 0 1;");
        // 594800 and 625904
        Check.is("odds of 48 in 100", great.odds(0), 3);
        Check.is("odds of 51 in 100", great.odds(1), 6);
        Watch hand = Check.loaded("shells 2;sly 1;blink 0 0;odds chance/10;");
        hand.steal(0);
        // 4, 1 and 1: the hand counts
        Check.is("odds of 66 in 100", hand.odds(0), 6);
        Check.is("odds of 16 in 100", hand.odds(1), 1);
    }

    private static void stepsAndBlinksOfOdds() {
        Check.sentence("steps the number of steps so far, blinks how many of them the watcher blinked at");
        Watch watch = Check.loaded("shells 8;blink 1 2;odds 2*steps-blinks;");
        int[] due = {0, 2, 3, 4, 6, 8, 9, 9};
        for (int step = 0; step < due.length; step++) {
            Check.is("odds at step " + step, watch.odds(7), due[step]);
            watch.rest();
        }
        Watch told = Check.loaded("shells 8;odds blinks;");
        told.rest();
        told.blink(0, 9);
        Check.is("a blink told behind its step", told.odds(0), 0);
        told.rest();
        Check.is("a blink told ahead of its step", told.odds(0), 1);
        told.peek(0);
        Check.is("a peek is no step", told.odds(0), 1);
    }
}
