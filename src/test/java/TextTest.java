/** Promises 2 to 5: the input buffer, setup texts, scripts and their errors. */
final class TextTest {
    private static final Class<?> ILLEGAL = IllegalArgumentException.class;

    public static void main(String[] args) {
        appends();
        loadsLengths();
        loadsAll();
        loadsSpacesAndNumbers();
        loadErrors();
        oddsErrors();
        errorsOfLoadChangeNothing();
        runsLengths();
        runsCommands();
        runsEndEarly();
        runErrors();
        errorOffsets();
        Check.finish();
    }

    private static void appends() {
        Watch watch = new Watch();
        for (int i = 1; i <= 25; i++) {
            Check.is("append " + i, watch.append(0x20202020, 0x20202020, 0x20202020, 0x20202020, 0x20202020), 20 * i);
        }
        Check.is("append 26", watch.append(1, 2, 3, 4, 5), -1);
        Check.is("500 bytes of spaces", watch.load(500), ShellWatch.SYNTAX_ERROR);
        Check.is("500 bytes of spaces end at", watch.errorOffset(), 500);
        Check.is("append behind", watch.append(0, 0, 0, 0, 0), 20);
        // The most significant byte is first: "shel" "ls 4" ";sly" " 7; " "    "
        watch = new Watch();
        watch.append(0x7368656c, 0x6c732034, 0x3b736c79, 0x20373b20, 0x20202020);
        Check.is("order of bytes", watch.load(20), 4);
        Check.is("order of bytes, sly", watch.state(6), 7);
        // A negative argument is four bytes as any other.
        watch.append(0xff808182, -1, -1, -1, -1);
        Check.is("bytes of 128 and more", watch.load(20), ShellWatch.SYNTAX_ERROR);
        Check.is("bytes of 128 and more are at", watch.errorOffset(), 0);
    }

    private static void loadsLengths() {
        Watch watch = new Watch();
        Check.refused("load(-1)", watch, ILLEGAL, x -> x.load(-1));
        Check.refused("load(1) of nothing", watch, ILLEGAL, x -> x.load(1));
        Check.refused("load(least int)", watch, ILLEGAL, x -> x.load(Integer.MIN_VALUE));
        Check.put(watch, "shells 5;");
        Check.refused("load(21)", watch, ILLEGAL, x -> x.load(21));
        Check.is("buffer is unchanged", watch.load(9), 5);
        Check.refused("buffer is empty", watch, ILLEGAL, x -> x.load(1));
        Check.is("load(0)", watch.load(0), ShellWatch.SYNTAX_ERROR);
        Check.is("load(0) at", watch.errorOffset(), 0);
        Check.refused("load(-1) behind an error", watch, ILLEGAL, x -> x.load(-1));
        // Just the first bytes are read, and no token goes on behind them.
        Check.put(watch, "shells 2;ball 1;");
        Check.is("first bytes", watch.load(9), 2);
        Check.is("ball behind the first bytes", watch.state(2), 0);
        Check.put(watch, "shells 4;purse 9999;");
        Check.is("a word cut", watch.load(12), ShellWatch.SYNTAX_ERROR);
        Check.is("a word cut, at", watch.errorOffset(), 9);
    }

    private static void loadsAll() {
        Watch watch = new Watch();
        watch.swap(0, 1);
        watch.bet(0, 7);
        watch.blink(3, 4);
        String text = "shells 8;blink 5 9;ball 7;scratch 1 3;trust 1;calm 9;sly 9;purse 9999;odds 3*3;scratch 0;"
                + "blink 9 9;blink 0 9999;";
        Check.is("load of all", Check.load(watch, text), 8);
        int[] due = {8, 0, 7, 0, 1, 9, 9, 9999, 0, 0, 1, 1, 3};
        for (int what = 0; what < due.length; what++) {
            Check.is("state " + what + " of all", watch.state(what), due[what]);
        }
        for (int place = 0; place < 8; place++) {
            Check.is("shell of all", watch.shell(place, 0), place);
            Check.is("scratch of all", watch.shell(place, 1), place == 0 || place == 1 || place == 3 ? 1 : 0);
            Check.is("moves of all", watch.shell(place, 2), 0);
            Check.is("odds of all", watch.odds(place), 9);
        }
        Check.is("beliefs of all", Check.beliefs(watch), "0 0 0 0 0 0 0 1 0");
        Check.is("load without statements", Check.load(watch, "shells 2;"), 2);
        int[] plain = {2, 0, 0, 0, 80, 1, 0, 100, 0, 0, 1, 1, 0};
        for (int what = 0; what < plain.length; what++) {
            Check.is("state " + what + " without statements", watch.state(what), plain[what]);
        }
        Check.is("scratches without statements", watch.shell(0, 1) + watch.shell(1, 1), 0);
        Check.is("odds without statements", watch.odds(0), 1);
        Check.setup("shells 8;trust 99;calm 1;sly 0;purse 0;ball 0;", 8, -1);
        Check.setup("shells2;" + Check.times(8, "blink 9999 9999;"), 2, -1);
    }

    private static void loadsSpacesAndNumbers() {
        Check.setup("shells3;ball2;scratch0 1;trust99;odds(shells+1)*2;blink 0 1;", 3, -1);
        Check.setup("  shells   3  ;  ball   2  ;  ", 3, -1);
        Check.setup("shells 000000000000000000003;ball 0000000000;purse 00009999;", 3, -1);
        Check.setup("shells 99999999999999999999999;", ShellWatch.OUT_OF_RANGE, 7);
        Check.setup("shells 4294967299;", ShellWatch.OUT_OF_RANGE, 7);
        Check.setup("shells 3;purse 18446744073709551616;", ShellWatch.OUT_OF_RANGE, 15);
        Check.setup("shells 3;odds 2 * shells - 1;", 3, -1);
        Check.setup("sh ells 3;", ShellWatch.SYNTAX_ERROR, 0);
        Check.setup("shells 3\n;", ShellWatch.SYNTAX_ERROR, 8);
        Check.setup("shells 3;\t", ShellWatch.SYNTAX_ERROR, 9);
        Check.setup("shells 3;\0", ShellWatch.SYNTAX_ERROR, 9);
        Check.setup("shells 3;\u00e9", ShellWatch.SYNTAX_ERROR, 9);
        Check.setup("Shells 3;", ShellWatch.SYNTAX_ERROR, 0);
    }

    private static void loadErrors() {
        Check.setup("", ShellWatch.SYNTAX_ERROR, 0);
        Check.setup("   ", ShellWatch.SYNTAX_ERROR, 3);
        Check.setup("shells", ShellWatch.SYNTAX_ERROR, 6);
        Check.setup("shells 3", ShellWatch.SYNTAX_ERROR, 8);
        Check.setup("shells 3  ", ShellWatch.SYNTAX_ERROR, 10);
        Check.setup("shells 3;ball 1", ShellWatch.SYNTAX_ERROR, 15);
        Check.setup("shells ;", ShellWatch.SYNTAX_ERROR, 7);
        Check.setup("shells 3;;", ShellWatch.SYNTAX_ERROR, 9);
        Check.setup("shellsx 3;", ShellWatch.SYNTAX_ERROR, 0);
        Check.setup("shellsz 3;", ShellWatch.SYNTAX_ERROR, 0);
        Check.setup("shells{ 3;", ShellWatch.SYNTAX_ERROR, 6);
        Check.setup("shells` 3;", ShellWatch.SYNTAX_ERROR, 6);
        Check.setup("ball 1;shells 3;", ShellWatch.SYNTAX_ERROR, 0);
        Check.setup("shells 3;shells 3;", ShellWatch.SYNTAX_ERROR, 9);
        Check.setup("shells 3;steps 3;", ShellWatch.SYNTAX_ERROR, 9);
        Check.setup("shells 3;swap 0 1;", ShellWatch.SYNTAX_ERROR, 9);
        Check.setup("shells 3;3;", ShellWatch.SYNTAX_ERROR, 9);
        Check.setup("shells 3;ball -1;", ShellWatch.SYNTAX_ERROR, 14);
        Check.setup("shells 3;ball 1 2;", ShellWatch.SYNTAX_ERROR, 16);
        Check.setup("shells 3;ball ball;", ShellWatch.SYNTAX_ERROR, 14);
        Check.setup("shells 3;scratch;", ShellWatch.SYNTAX_ERROR, 16);
        Check.setup("shells 3;scratch 0;scratch;", ShellWatch.SYNTAX_ERROR, 26);
        Check.setup("shells 3;scratch 0;scratch ball;", ShellWatch.SYNTAX_ERROR, 27);
        Check.setup("shells 3;blink 1;", ShellWatch.SYNTAX_ERROR, 16);
        Check.setup("shells 3;blink 1 2 3;", ShellWatch.SYNTAX_ERROR, 19);
        for (String word : new String[] {"ball", "trust", "calm", "sly", "purse", "odds"}) {
            Check.setup("shells 3;" + word + " 1;" + word + " 1;", ShellWatch.SYNTAX_ERROR, 9 + word.length() + 3);
            Check.setup("shells 3;" + word + " 1;blink 1 1;" + word + " 99999;", ShellWatch.SYNTAX_ERROR,
                    9 + word.length() + 13);
            Check.setup("shells 3;" + word + ";", ShellWatch.SYNTAX_ERROR, 9 + word.length());
        }
        Check.setup("shells 1;", ShellWatch.OUT_OF_RANGE, 7);
        Check.setup("shells 9;", ShellWatch.OUT_OF_RANGE, 7);
        Check.setup("shells 9", ShellWatch.OUT_OF_RANGE, 7);
        Check.setup("shells 3;ball 3;", ShellWatch.OUT_OF_RANGE, 14);
        Check.setup("shells 3;scratch 0 3;", ShellWatch.OUT_OF_RANGE, 19);
        Check.setup("shells 3;trust 0;", ShellWatch.OUT_OF_RANGE, 15);
        Check.setup("shells 3;trust 100;", ShellWatch.OUT_OF_RANGE, 15);
        Check.setup("shells 3;calm 0;", ShellWatch.OUT_OF_RANGE, 14);
        Check.setup("shells 3;calm 10;", ShellWatch.OUT_OF_RANGE, 14);
        Check.setup("shells 3;sly 10;", ShellWatch.OUT_OF_RANGE, 13);
        Check.setup("shells 3;purse 10000;", ShellWatch.OUT_OF_RANGE, 15);
        Check.setup("shells 3;blink 10000 10000;", ShellWatch.OUT_OF_RANGE, 15);
        Check.setup("shells 3;blink 5 10000;", ShellWatch.OUT_OF_RANGE, 17);
        Check.setup("shells 3;blink 5 4;", ShellWatch.OUT_OF_RANGE, 17);
        Check.setup("shells 3;blink 10000 4 4;", ShellWatch.OUT_OF_RANGE, 15);
        Check.setup("shells 3;scratch 1 1;", ShellWatch.REPEATED, 19);
        Check.setup("shells 3;scratch 1;ball 2;scratch 0 2 01;", ShellWatch.REPEATED, 38);
        Check.setup("shells 3;scratch 1 1 9;", ShellWatch.REPEATED, 19);
        Check.setup("shells 3;scratch 9 1 1;", ShellWatch.OUT_OF_RANGE, 17);
        Check.setup("shells 3;" + Check.times(8, "blink 1 1;") + "blink 1 1;", ShellWatch.TOO_MANY, 89);
        Check.setup("shells 3;" + Check.times(8, "blink 1 1;") + "blink", ShellWatch.TOO_MANY, 89);
        Check.setup("shells 3;" + Check.times(8, "blink 1 1;") + "blinks 1 1;", ShellWatch.SYNTAX_ERROR, 89);
    }

    private static void oddsErrors() {
        Check.setup("shells 3;odds ((((1))));", 3, -1);
        Check.setup("shells 3;odds ((((1))))+((((2))))*((((3))));", 3, -1);
        Check.setup("shells 3;odds (((((1)))));", ShellWatch.TOO_DEEP, 18);
        Check.setup("shells 3;odds 1+(2*(3-(4/(5+(6)))));", ShellWatch.TOO_DEEP, 28);
        Check.setup("shells 3;odds ((((1(", ShellWatch.SYNTAX_ERROR, 19);
        Check.setup("shells 3;odds ((((;", ShellWatch.SYNTAX_ERROR, 18);
        Check.setup("shells 3;odds ((1);", ShellWatch.SYNTAX_ERROR, 18);
        Check.setup("shells 3;odds (1));", ShellWatch.SYNTAX_ERROR, 17);
        Check.setup("shells 3;odds ();", ShellWatch.SYNTAX_ERROR, 15);
        Check.setup("shells 3;odds 1+;", ShellWatch.SYNTAX_ERROR, 16);
        Check.setup("shells 3;odds +1;", ShellWatch.SYNTAX_ERROR, 14);
        Check.setup("shells 3;odds 1*-1;", ShellWatch.SYNTAX_ERROR, 16);
        Check.setup("shells 3;odds 1 2;", ShellWatch.SYNTAX_ERROR, 16);
        Check.setup("shells 3;odds 1 99999;", ShellWatch.SYNTAX_ERROR, 16);
        Check.setup("shells 3;odds ball;", ShellWatch.SYNTAX_ERROR, 14);
        Check.setup("shells 3;odds chance steps;", ShellWatch.SYNTAX_ERROR, 21);
        Check.setup("shells 3;odds 10000;", ShellWatch.OUT_OF_RANGE, 14);
        Check.setup("shells 3;odds 9999-10000", ShellWatch.OUT_OF_RANGE, 19);
        Check.setup("shells 3;odds 9999", ShellWatch.SYNTAX_ERROR, 18);
        // As long as a buffer allows.
        Check.setup("shells 3;odds 1" + Check.times(242, "+1") + ";", 3, -1);
    }

    private static void errorsOfLoadChangeNothing() {
        Watch watch = Check.loaded("shells 4;ball 2;scratch 1;blink 0 3;odds 5;purse 7;");
        watch.swap(0, 2);
        long before = watch.checksum();
        Check.is("late error", Check.load(watch, "shells 8;ball 7;blink 1 1;odds 3;purse 1;sly 3;x"), -2);
        Check.is("game behind a late error", watch.checksum(), before);
        Check.is("odds behind a late error", watch.odds(0), 5);
        Check.is("blinks behind a late error", watch.blinks(3), true);
        Check.is("the error is no change", watch.undo(), 1);
    }

    private static void runsLengths() {
        Watch watch = new Watch();
        Check.refused("run(-1)", watch, ILLEGAL, x -> x.run(-1));
        Check.refused("run(1) of nothing", watch, ILLEGAL, x -> x.run(1));
        Check.put(watch, "rest;rest;");
        Check.refused("run(21)", watch, ILLEGAL, x -> x.run(21));
        Check.is("buffer is unchanged", watch.run(10), 2);
        Check.refused("buffer is empty", watch, ILLEGAL, x -> x.run(1));
        Check.put(watch, "rest;rest;");
        Check.is("first bytes", watch.run(5), 1);
        Check.refused("buffer is empty behind the first bytes", watch, ILLEGAL, x -> x.run(1));
        Check.script("", 0, -1);
        Check.script("   ", 0, -1);
    }

    private static void runsCommands() {
        Watch watch = Check.loaded("shells 3;sly 2;blink 3 9;");
        String text = "swap 0 1;feint1 2;peek 2;rest;steal 1;rest;plant 2;";
        Check.is("all commands", Check.run(watch, text), 7);
        Watch same = Check.loaded("shells 3;sly 2;blink 3 9;");
        same.swap(0, 1);
        same.feint(1, 2);
        same.peek(2);
        same.rest();
        same.steal(1);
        same.rest();
        same.plant(2);
        Check.is("commands are as the methods", watch.checksum(), same.checksum());
        Check.is("a run is one change", watch.undo(), 1);
        Check.is("a run is undone whole", watch.state(1), 0);
        Check.script("repeat 20(rest;);", 20, -1);
        Check.script("repeat 3(repeat 2(rest;);swap 0 1;);", 9, -1);
        Check.script("repeat 2(repeat 3(repeat 4(rest;);););", 24, -1);
        Check.script("repeat 2();", 0, -1);
        Check.script("repeat 20(repeat 20(repeat 20();););rest;", 1, -1);
        Check.script("repeat 01 ( rest ; ) ;", 1, -1);
        Check.script("repeat1(rest;);swap0 1;", 2, -1);
        Watch order = new Watch();
        Check.is("order of repeats", Check.run(order, "repeat 2(swap 0 1;repeat 2(swap 1 2;swap 0 1;););"), 10);
        Watch plain = new Watch();
        Check.is("order without repeats", Check.run(plain, "swap 0 1;swap 1 2;swap 0 1;swap 1 2;swap 0 1;"
                + "swap 0 1;swap 1 2;swap 0 1;swap 1 2;swap 0 1;"), 10);
        Check.is("repeats do the same", order.checksum(), plain.checksum());
    }

    private static void runsEndEarly() {
        Check.script("rest;swap 0 3;rest;", 1, -1);
        Check.script("rest;swap 1 1;rest;", 1, -1);
        Check.script("rest;feint 9999 0;rest;", 1, -1);
        Check.script("feint 2 2;rest;", 0, -1);
        Check.script("rest;steal 0;rest;", 1, -1);
        Check.script("rest;plant 0;rest;", 1, -1);
        Check.script("rest;peek 3;rest;", 1, -1);
        Check.script("peek 2;peek 9999;", 1, -1);
        Check.script("repeat 20(repeat 20(rest;););", 200, -1);
        Check.script("repeat 20(repeat 9(rest;);peek 0;);rest;", 200, -1);
        Check.script("repeat 20(repeat 9(rest;);peek 0;);swap 7 7;", 200, -1);
        Check.script("repeat 5(rest;repeat 5(rest;steal 0;););", 2, -1);
        Watch watch = Check.loaded("shells 3;sly 1;blink 0 9;");
        Check.is("no steal twice", Check.run(watch, "repeat 2(steal 0;);rest;"), 1);
        Check.is("the steal is done", watch.state(2), 3);
        Check.is("no steal of another shell", Check.run(watch, "plant 1;steal 0;"), 1);
        Check.is("no plant at no place", Check.run(watch, "steal 1;plant 3;"), 1);
        Check.is("an early end is one change", watch.undo(), 3);
        Check.is("an early end is undone", watch.state(2), 1);
        watch = Check.loaded("shells 3;blink 0 9;");
        Check.is("no steal without sly", Check.run(watch, "steal 0;rest;"), 0);
    }

    private static void runErrors() {
        Check.script("swap 0 1", ShellWatch.SYNTAX_ERROR, 8);
        Check.script("swap 0 1  ", ShellWatch.SYNTAX_ERROR, 10);
        Check.script("rest", ShellWatch.SYNTAX_ERROR, 4);
        Check.script("rest;;", ShellWatch.SYNTAX_ERROR, 5);
        Check.script(";", ShellWatch.SYNTAX_ERROR, 0);
        Check.script("swap 0;", ShellWatch.SYNTAX_ERROR, 6);
        Check.script("swap 0 1 2;", ShellWatch.SYNTAX_ERROR, 9);
        Check.script("rest 1;", ShellWatch.SYNTAX_ERROR, 5);
        Check.script("steal;", ShellWatch.SYNTAX_ERROR, 5);
        Check.script("plant 1 1;", ShellWatch.SYNTAX_ERROR, 8);
        Check.script("bet 1 1;", ShellWatch.SYNTAX_ERROR, 0);
        Check.script("scratch 1;", ShellWatch.SYNTAX_ERROR, 0);
        Check.script("shells 3;", ShellWatch.SYNTAX_ERROR, 0);
        Check.script("swaprest;", ShellWatch.SYNTAX_ERROR, 0);
        Check.script("rest;)", ShellWatch.SYNTAX_ERROR, 5);
        Check.script("repeat 2 rest;", ShellWatch.SYNTAX_ERROR, 9);
        Check.script("repeat (rest;);", ShellWatch.SYNTAX_ERROR, 7);
        Check.script("repeat 2(rest);", ShellWatch.SYNTAX_ERROR, 13);
        Check.script("repeat 2(rest;)", ShellWatch.SYNTAX_ERROR, 15);
        Check.script("repeat 2(rest;", ShellWatch.SYNTAX_ERROR, 14);
        Check.script("repeat 2(rest;;);", ShellWatch.SYNTAX_ERROR, 14);
        Check.script("rest;\0", ShellWatch.SYNTAX_ERROR, 5);
        Check.script("swap 9999 9999;", 0, -1);
        Check.script("swap 10000 0;", ShellWatch.OUT_OF_RANGE, 5);
        Check.script("swap 0 10000;", ShellWatch.OUT_OF_RANGE, 7);
        Check.script("peek 99999999999;", ShellWatch.OUT_OF_RANGE, 5);
        Check.script("repeat 0(rest;);", ShellWatch.OUT_OF_RANGE, 7);
        Check.script("repeat 21(rest;);", ShellWatch.OUT_OF_RANGE, 7);
        Check.script("repeat 21 rest", ShellWatch.OUT_OF_RANGE, 7);
        Check.script("rest;rest;peek 10000", ShellWatch.OUT_OF_RANGE, 15);
        Check.script(Check.times(60, "rest;"), 60, -1);
        Check.script(Check.times(61, "rest;"), ShellWatch.TOO_MANY, 300);
        Check.script(Check.times(60, "rest;") + "x;", ShellWatch.SYNTAX_ERROR, 300);
        Check.script("repeat 2(" + Check.times(59, "rest;") + ");", 118, -1);
        Check.script("repeat 2(" + Check.times(60, "rest;") + ");", ShellWatch.TOO_MANY, 304);
        Check.script(Check.times(60, "rest;") + "repeat 2();", ShellWatch.TOO_MANY, 300);
        Check.script("repeat 1(repeat 1(repeat 1(repeat 1(rest;););););", ShellWatch.TOO_DEEP, 27);
        Check.script("repeat 1(repeat 1(repeat 1(rest;repeat", ShellWatch.TOO_DEEP, 32);
        Check.script("repeat 1(repeat 1(repeat 1();repeat 1(););repeat 1(););repeat 1();", 0, -1);
        // A repeat that is both the 61st and inside 3 others
        Check.script("repeat 1(repeat 1(repeat 1(" + Check.times(57, "rest;") + "repeat", ShellWatch.TOO_MANY, 312);
        Check.script("repeat 1(repeat 1(repeat 1(" + Check.times(56, "rest;") + "repeat", ShellWatch.TOO_DEEP, 307);
    }

    private static void errorOffsets() {
        Watch watch = new Watch();
        Check.is("no call", watch.errorOffset(), -1);
        Check.run(watch, "rest;x");
        Check.is("an error of run", watch.errorOffset(), 5);
        Check.refused("a call that throws", watch, ILLEGAL, x -> x.load(1));
        Check.is("behind a call that threw", watch.errorOffset(), 5);
        watch.append(0, 0, 0, 0, 0);
        watch.rest();
        Check.is("behind other calls", watch.errorOffset(), 5);
        watch.undo();
        Check.is("behind undo", watch.errorOffset(), 5);
        Check.is("no byte of the buffer", watch.run(0), 0);
        Check.is("no error of run", watch.errorOffset(), -1);
        watch.load(0);
        Check.is("an error of load", watch.errorOffset(), 0);
        Check.load(watch, "shells 3;");
        Check.is("no error of load", watch.errorOffset(), -1);
        Check.run(watch, "swap 0 0;");
        Check.is("an early end is no error", watch.errorOffset(), -1);
    }
}
