/** Promises 18 to 26 and 28: what changes the game, and undo. */
final class ChangeTest {
    private static final Class<?> ILLEGAL = IllegalArgumentException.class;
    private static final Class<?> NO_PLACE = IndexOutOfBoundsException.class;
    private static final Class<?> NOT_NOW = IllegalStateException.class;
    private static final int[] NO_PLACES = {-1, 3, 8, Integer.MIN_VALUE, Integer.MAX_VALUE};

    public static void main(String[] args) {
        swap();
        feint();
        movesOfScratchedShells();
        rest();
        moveBlinks();
        blinksOfScratchedShells();
        beliefsStayWithinBounds();
        steal();
        plant();
        peek();
        bet();
        betBounds();
        scratch();
        blink();
        undo();
        undoOfEach();
        undoIsFinal();
        Check.finish();
    }

    private static void swap() {
        Watch watch = new Watch();
        for (int no : NO_PLACES) {
            Check.refused("swap(" + no + ", 0)", watch, NO_PLACE, x -> x.swap(no, 0));
            Check.refused("swap(0, " + no + ")", watch, NO_PLACE, x -> x.swap(0, no));
            Check.refused("swap(no, no) " + no, watch, NO_PLACE, x -> x.swap(no, no));
        }
        Check.refused("swap(2, 2)", watch, ILLEGAL, x -> x.swap(2, 2));
        Check.is("what was refused is no change", watch.undo(), -1);
        Check.is("swap", watch.swap(2, 0), false);
        Check.is("row behind a swap", Check.row(watch), "210");
        Check.is("ball behind a swap", watch.state(2), 2);
        Check.is("beliefs behind a swap", Check.beliefs(watch), "1 0 4 0");
        Check.is("steps behind a swap", watch.state(1), 1);
        watch.swap(0, 1);
        Check.is("row behind two swaps", Check.row(watch), "120");
        Check.is("beliefs behind two swaps", Check.beliefs(watch), "1 4 20 0");
        Check.is("ball that was not moved", watch.state(2), 2);
        Watch trust = Check.loaded("shells 2;trust 99;");
        trust.swap(0, 1);
        Check.is("much trust", Check.beliefs(trust), "1 99 0");
        trust = Check.loaded("shells 2;trust 1;");
        trust.swap(0, 1);
        Check.is("little trust", Check.beliefs(trust), "99 1 0");
    }

    private static void feint() {
        Watch watch = new Watch();
        for (int no : NO_PLACES) {
            Check.refused("feint(" + no + ", 0)", watch, NO_PLACE, x -> x.feint(no, 0));
            Check.refused("feint(0, " + no + ")", watch, NO_PLACE, x -> x.feint(0, no));
            Check.refused("feint(no, no) " + no, watch, NO_PLACE, x -> x.feint(no, no));
        }
        Check.refused("feint(0, 0)", watch, ILLEGAL, x -> x.feint(0, 0));
        Check.is("what was refused is no change", watch.undo(), -1);
        Check.is("feint", watch.feint(2, 0), false);
        Check.is("row behind a feint", Check.row(watch), "012");
        Check.is("ball behind a feint", watch.state(2), 0);
        Check.is("moves behind a feint", watch.shell(0, 2), 0);
        Check.is("beliefs behind a feint", Check.beliefs(watch), "1 0 4 0");
        Check.is("steps behind a feint", watch.state(1), 1);
    }

    private static void movesOfScratchedShells() {
        Watch watch = Check.loaded("shells 4;scratch 1 3;");
        watch.swap(0, 2);
        Check.is("both are smooth", Check.beliefs(watch), "1 0 4 0 0");
        watch.swap(2, 3);
        Check.is("a swap betrayed", Check.beliefs(watch), "1 0 0 4 0");
        Check.is("a scratch goes with its shell", watch.shell(2, 1), 1);
        Check.is("a scratch goes away", watch.shell(3, 1), 0);
        watch.feint(2, 3);
        Check.is("a feint betrayed", Check.beliefs(watch), "1 0 0 4 0");
        watch.swap(0, 1);
        watch.feint(0, 2);
        Check.is("both are scratched, nothing believed", Check.beliefs(watch), "0 1 0 4 0");
        watch.scratch(3, true);
        watch.feint(0, 3);
        Check.is("both are scratched", Check.beliefs(watch), "16 5 0 4 0");
    }

    private static void rest() {
        Watch watch = new Watch();
        watch.swap(0, 1);
        Check.is("rest", watch.rest(), false);
        Check.is("beliefs behind a rest", Check.beliefs(watch), "1 4 0 0");
        Check.is("row behind a rest", Check.row(watch), "102");
        Check.is("steps behind a rest", watch.state(1), 2);
        watch.blink(2, 2);
        Check.is("rest at a blink", watch.rest(), true);
        // 3 swaps: each place keeps itself by 1 of them and by calm
        Check.is("beliefs behind a rest at a blink", Check.beliefs(watch), "6 9 5 0");
        Check.is("blinks behind it", watch.state(3), 1);
        Check.is("rest behind the blink", watch.rest(), false);
        Check.is("beliefs stay", Check.beliefs(watch), "6 9 5 0");
    }

    private static void moveBlinks() {
        Watch watch = Check.loaded("shells 3;calm 3;blink 0 1;");
        Check.is("swap at a blink", watch.swap(0, 1), true);
        Check.is("beliefs behind a swap at a blink", Check.beliefs(watch), "4 1 1 0");
        Check.is("ball behind it", watch.state(2), 1);
        Check.is("feint at a blink", watch.feint(1, 2), true);
        Check.is("beliefs behind a feint at a blink", Check.beliefs(watch), "2 1 1 0");
        Check.is("swap behind the blink", watch.swap(0, 1), false);
        // With sly: 2 shells, weights 1 for the swap, 2 for nothing, 3 for each steal and plant
        Watch sly = Check.loaded("shells 2;calm 2;sly 3;blink 0 1;");
        sly.rest();
        Check.is("sly", Check.beliefs(sly), "11 1 3");
        sly.swap(0, 1);
        // 0: 11 * (2 + 3 + 6) + 1 + 3 * 3, 1: 11 + 11 + 9, hand: 3 * (1 + 2 + 6) + 3 * 12
        Check.is("sly with the hand", Check.beliefs(sly), "131 31 63");
    }

    private static void blinksOfScratchedShells() {
        Watch watch = Check.loaded("shells 4;scratch 0 1;calm 2;blink 0 9;");
        watch.rest();
        // of the swaps count 0 with 1 and 2 with 3: 0 stays by 2 with 3 and by calm
        Check.is("like shells", Check.beliefs(watch), "3 1 0 0 0");
        watch.swap(0, 2);
        Check.is("seen at other places", Check.beliefs(watch), "0 1 3 0 0");
        watch.feint(1, 2);
        Check.is("a feint of like shells", Check.beliefs(watch), "0 3 5 0 0");
        watch.feint(0, 1);
        Check.is("a feint of unlike shells", Check.beliefs(watch), "0 7 9 0 0");
        watch.swap(3, 0);
        Check.is("a swap of smooth shells", Check.beliefs(watch), "0 15 17 0 0");
        Watch sly = Check.loaded("shells 3;scratch 2;sly 1;blink 0 9;");
        sly.steal(0);
        // 0: by calm, 2 steals and 3 plants (its swap with 2 would be seen, with 1 leads away)
        Check.is("a steal with a scratch", Check.beliefs(sly), "6 1 0 1");
        sly.swap(2, 0);
        Check.is("a swap seen leads the hand nowhere", Check.beliefs(sly), "0 1 6 1");
    }

    private static void beliefsStayWithinBounds() {
        Watch watch = Check.loaded("shells 2;trust 99;");
        watch.swap(0, 1);
        watch.swap(0, 1);
        Check.is("two swaps", Check.beliefs(watch), "4901 99 0");
        watch.swap(0, 1);
        // 4901 + 99 * 99 = 14702 and 4901 * 99 + 99 = 485298, both even
        Check.is("three swaps", Check.beliefs(watch), "7351 242649 0");
        watch.swap(0, 1);
        // 24029602 and 970398 by 2 are 12014801 and 485199; halved 4 times, each time rounded up
        Check.is("halved", Check.beliefs(watch), "750926 30325 0");
        watch.rest();
        Check.is("behind a rest", Check.beliefs(watch), "750926 30325 0");
        Watch bound = Check.loaded("shells 3;trust 48;calm 3;blink 3 3;");
        Check.run(bound, "feint 2 1;swap 2 0;swap 1 2;rest;feint 1 2;feint 1 2;");
        Check.is("1000000 is not halved", Check.beliefs(bound), "1000000 671857 671893 0");
        Watch more = Check.loaded("shells 2;trust 49;calm 3;blink 1 1;blink 3 4;");
        // 1000001 and 999999 ahead of the halving
        Check.run(more, "swap 0 1;rest;feint 0 1;rest;rest;swap 0 1;");
        Check.is("1000001 is halved", Check.beliefs(more), "500001 500000 0");
        Watch even = Check.loaded("shells 2;trust 99;");
        for (int i = 0; i < 80; i++) {
            even.swap(0, 1);
            Check.is("not more than 1000000", even.belief(0) <= 1000000 && even.belief(1) <= 1000000, true);
            Check.is("the ball is believed in", even.belief(even.state(2)) > 0, true);
        }
    }

    private static void steal() {
        Watch watch = Check.loaded("shells 3;sly 2;blink 1 3;");
        for (int no : NO_PLACES) {
            Check.refused("steal(" + no + ")", watch, NO_PLACE, x -> x.steal(no));
        }
        Check.refused("steal without a blink", watch, NOT_NOW, x -> x.steal(0));
        watch.rest();
        Check.refused("steal of no ball", watch, NOT_NOW, x -> x.steal(1));
        // 0: by 1 swap, calm, 2 steals and 3 plants; 1 and 2: by a swap; hand: by the steal
        Check.is("steal", watch.steal(0), 12 + 1 + 1 + 2);
        Check.is("beliefs behind a steal", Check.beliefs(watch), "12 1 1 2");
        Check.is("the ball is in the hand", watch.state(2), 3);
        Check.is("the ball is under no shell", watch.shell(0, 3), 0);
        Check.is("a steal is a step", watch.state(1), 2);
        Check.is("at which the watcher blinked", watch.state(3), 1);
        Check.refused("steal with the ball in the hand", watch, NOT_NOW, x -> x.steal(0));
        Check.refused("steal from the hand", watch, NO_PLACE, x -> x.steal(3));
        Check.is("what was refused is no change", watch.undo(), 2);
        Watch honest = Check.loaded("shells 3;blink 0 9;");
        Check.refused("steal without sly", honest, NOT_NOW, x -> x.steal(0));
        Check.refused("steal at no place without sly", honest, NO_PLACE, x -> x.steal(3));
    }

    private static void plant() {
        Watch watch = Check.loaded("shells 3;sly 2;blink 0 1;blink 3 4;");
        for (int no : NO_PLACES) {
            Check.refused("plant(" + no + ")", watch, NO_PLACE, x -> x.plant(no));
        }
        Check.refused("plant of no ball in the hand", watch, NOT_NOW, x -> x.plant(0));
        watch.swap(0, 2);
        watch.steal(2);
        Check.refused("plant without a blink", watch, NOT_NOW, x -> x.plant(2));
        watch.peek(0);
        watch.peek(1);
        watch.peek(2);
        watch.rest();
        Check.is("beliefs ahead of a plant", Check.beliefs(watch), "0 0 0 1");
        // hand: 10 by 3 swaps, calm and 3 steals; each place: 2 by its plant; divided by 2
        Check.is("plant", watch.plant(1), 1 + 1 + 1 + 5);
        Check.is("beliefs behind a plant", Check.beliefs(watch), "1 1 1 5");
        Check.is("the ball is under a shell", watch.state(2), 1);
        Check.is("it is under this shell", watch.shell(1, 3), 1);
        Check.is("a plant is a step", watch.state(1), 4);
        Check.refused("plant twice", watch, NOT_NOW, x -> x.plant(1));
        watch.swap(0, 1);
        Check.is("a planted ball moves with its shell", watch.state(2), 0);
    }

    private static void peek() {
        Watch watch = new Watch();
        for (int no : NO_PLACES) {
            Check.refused("peek(" + no + ")", watch, NO_PLACE, x -> x.peek(no));
        }
        watch.swap(0, 1);
        watch.feint(1, 2);
        Check.is("beliefs ahead of a peek", Check.beliefs(watch), "5 4 16 0");
        Check.is("peek at no ball", watch.peek(0), false);
        Check.is("beliefs behind it", Check.beliefs(watch), "0 1 4 0");
        Check.is("a peek is no step", watch.state(1), 2);
        Check.is("peek at the ball", watch.peek(1), true);
        Check.is("beliefs behind the ball", Check.beliefs(watch), "0 1 0 0");
        Check.is("peek at nothing believed", watch.peek(0), false);
        Check.is("beliefs stay", Check.beliefs(watch), "0 1 0 0");
        Watch hand = Check.loaded("shells 2;sly 4;blink 0 9;");
        hand.steal(0);
        Check.is("beliefs with the hand", Check.beliefs(hand), "13 1 4");
        Check.is("peek with the ball in the hand", hand.peek(0), false);
        Check.is("beliefs behind it, with the hand", Check.beliefs(hand), "0 1 4");
    }

    private static void bet() {
        Watch watch = Check.loaded("shells 3;purse 50;odds steps+chance/20;");
        for (int no : NO_PLACES) {
            Check.refused("bet(" + no + ", 1)", watch, NO_PLACE, x -> x.bet(no, 1));
            Check.refused("bet(" + no + ", 0)", watch, NO_PLACE, x -> x.bet(no, 0));
            Check.refused("bet(" + no + ", 999)", watch, NO_PLACE, x -> x.bet(no, 999));
        }
        for (int stake : new int[] {0, -1, 1000, Integer.MIN_VALUE, Integer.MAX_VALUE}) {
            Check.refused("bet(0, " + stake + ")", watch, ILLEGAL, x -> x.bet(0, stake));
        }
        Check.refused("bet of more than the purse", watch, NOT_NOW, x -> x.bet(0, 51));
        Check.refused("bet of much more than the purse", watch, NOT_NOW, x -> x.bet(0, 999));
        watch.swap(0, 1);
        Check.is("bet lost", watch.bet(0, 20), 30);
        Check.is("beliefs behind a bet lost", Check.beliefs(watch), "0 1 0 0");
        Check.is("bets lost", watch.state(9), 1);
        watch.undo();
        // 1 step and 80 in 100 ahead of the bet
        Check.is("bet won", watch.bet(1, 10), 100);
        Check.is("beliefs behind a bet won", Check.beliefs(watch), "0 1 0 0");
        Check.is("bets won", watch.state(8), 1);
        Check.is("bets lost stay", watch.state(9), 0);
        Check.is("a bet is no step", watch.state(1), 1);
        Check.is("the whole purse", watch.bet(0, 100), 0);
        Check.refused("bet of an empty purse", watch, NOT_NOW, x -> x.bet(1, 1));
        Watch none = Check.loaded("shells 5;");
        Check.is("odds without a statement", none.bet(0, 100), 500);
        Watch zero = Check.loaded("shells 5;odds 0;");
        Check.is("a bet won with odds of 0", zero.bet(0, 100), 100);
        Check.is("is won", zero.state(8), 1);
    }

    private static void betBounds() {
        Watch watch = Check.loaded("shells 2;purse 9999;odds 9;");
        for (int i = 1; i <= 110; i++) {
            Check.is("bet " + i, watch.bet(0, 999), 9999 + 8991 * i);
        }
        Check.is("the last bet below the bound", watch.bet(0, 110), 999999);
        Check.is("the bound", watch.bet(0, 1), 1000000);
        Check.is("not more than the bound", watch.bet(0, 999), 1000000);
        Check.is("less than the bound", watch.bet(1, 999), 999001);
        Check.is("stake as the purse", Check.loaded("shells 2;purse 999;").bet(1, 999), 0);
    }

    private static void scratch() {
        Watch watch = new Watch();
        for (int no : NO_PLACES) {
            Check.refused("scratch(" + no + ")", watch, NO_PLACE, x -> x.scratch(no, true));
        }
        watch.swap(0, 1);
        Check.is("scratch", watch.scratch(1, true), false);
        Check.is("scratched", watch.shell(1, 1), 1);
        Check.is("others are not", watch.shell(0, 1) + watch.shell(2, 1), 0);
        Check.is("beliefs stay", Check.beliefs(watch), "1 4 0 0");
        Check.is("a scratch is no step", watch.state(1), 1);
        Check.is("scratch again", watch.scratch(1, true), true);
        watch.swap(1, 2);
        Check.is("the scratch moves", watch.shell(2, 1), 1);
        Check.is("beliefs follow", Check.beliefs(watch), "1 0 4 0");
        Check.is("smooth", watch.scratch(2, false), true);
        Check.is("is smooth", watch.shell(2, 1), 0);
        Check.is("smooth again", watch.scratch(2, false), false);
        Check.is("each is a change", watch.undo(), 5);
    }

    private static void blink() {
        Watch watch = new Watch();
        int[][] wrong = {{-1, 3}, {10000, 10000}, {5, 4}, {0, -1}, {3, 10000}, {Integer.MIN_VALUE, 0},
            {0, Integer.MAX_VALUE}};
        for (int[] w : wrong) {
            Check.refused("blink(" + w[0] + ", " + w[1] + ")", watch, ILLEGAL, x -> x.blink(w[0], w[1]));
        }
        Check.is("blink", watch.blink(0, 0), 1);
        Check.is("blinks 0", watch.blinks(0), true);
        Check.is("blinks 1", watch.blinks(1), false);
        Check.is("the same blink", watch.blink(0, 0), 2);
        Check.is("the last steps", watch.blink(9999, 9999), 3);
        Check.is("all steps", watch.blink(0, 9999), 4);
        Check.is("swap at a blink", watch.swap(0, 1), true);
        for (int i = 5; i <= 8; i++) {
            Check.is("blink " + i, watch.blink(i, i), i);
        }
        Check.refused("a 9th blink", watch, NOT_NOW, x -> x.blink(1, 1));
        for (int[] w : wrong) {
            Check.refused("9th blink(" + w[0] + ", " + w[1] + ")", watch, ILLEGAL, x -> x.blink(w[0], w[1]));
        }
        Watch full = Check.loaded("shells 2;blink 1 1;blink 2 2;blink 3 3;blink 4 4;blink 5 5;blink 6 6;blink 7 7;");
        Check.is("an 8th blink", full.blink(8, 8), 8);
        Check.refused("a 9th blink behind a text", full, NOT_NOW, x -> x.blink(1, 1));
    }

    private static void undo() {
        Watch watch = new Watch();
        Check.is("nothing to undo", watch.undo(), -1);
        long[] sums = new long[21];
        sums[0] = watch.checksum();
        for (int i = 1; i <= 20; i++) {
            watch.swap(i % 3, (i + 1) % 3);
            sums[i] = watch.checksum();
        }
        for (int i = 1; i <= 8; i++) {
            Check.is("undo " + i, watch.undo(), 8 - i);
            Check.is("game behind undo " + i, watch.checksum(), sums[20 - i]);
        }
        Check.is("undo of what is final", watch.undo(), -1);
        Check.is("game behind it", watch.checksum(), sums[12]);
        watch.append(0, 0, 0, 0, 0);
        watch.rest();
        Check.is("undo leaves no byte out", watch.undo(), 0);
        Check.is("the buffer stays", watch.append(0, 0, 0, 0, 0), 40);
        watch.load(40);
        Check.is("an error is no change", watch.undo(), -1);
        Check.is("the error offset stays", watch.errorOffset(), 0);
    }

    private static void undoOfEach() {
        Watch watch = Check.loaded("shells 4;ball 1;scratch 2;sly 1;blink 0 9;odds 4;purse 70;");
        String[] games = new String[9];
        games[0] = Check.game(watch);
        watch.steal(1);
        games[1] = Check.game(watch);
        watch.plant(3);
        games[2] = Check.game(watch);
        watch.bet(3, 9);
        games[3] = Check.game(watch);
        watch.scratch(2, false);
        games[4] = Check.game(watch);
        watch.blink(100, 200);
        games[5] = Check.game(watch);
        watch.peek(3);
        games[6] = Check.game(watch);
        Check.run(watch, "swap 0 3;rest;");
        games[7] = Check.game(watch);
        Check.load(watch, "shells 8;ball 7;odds 1+1;blink 4 4;");
        for (int i = 7; i >= 0; i--) {
            Check.is("undo " + i, watch.undo(), i);
            Check.is("game " + i, Check.game(watch), games[i]);
        }
        Check.is("nothing more", watch.undo(), -1);
        watch.peek(0);
        Check.is("a peek is a change", watch.undo(), 0);
        watch.run(0);
        Check.is("an empty script is a change", watch.undo(), 0);
        watch.feint(0, 1);
        watch.scratch(2, true);
        Check.is("a scratch that was is a change", watch.undo(), 1);
        Check.is("a feint is a change", watch.undo(), 0);
    }

    /** A change undone does not make others final, and what is final stays so. */
    private static void undoIsFinal() {
        Watch watch = new Watch();
        for (int i = 0; i < 8; i++) {
            watch.rest();
        }
        for (int i = 0; i < 20; i++) {
            Check.is("undo of the 8th", watch.undo(), 7);
            watch.rest();
        }
        watch.rest();
        Check.is("9 changes, the first is final", watch.undo(), 7);
        Check.is("steps", watch.state(1), 8);
        for (int i = 6; i >= 0; i--) {
            Check.is("undo down to " + i, watch.undo(), i);
        }
        Check.is("the first stays final", watch.undo(), -1);
        Check.is("its step stays", watch.state(1), 1);
    }
}
