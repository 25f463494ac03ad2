import java.lang.management.ManagementFactory;

/** LANGUAGE.md's room: what an object and its 512 calls make. */
final class RoomTest {
    // A run makes some 7.3 million fields and elements at most; none is smaller than a byte.
    private static final long MOST_BYTES = 7300000;

    private interface Call {
        void make(ShellWatch watch);
    }

    public static void main(String[] args) {
        if (!(ManagementFactory.getThreadMXBean() instanceof com.sun.management.ThreadMXBean)) {
            System.out.println("no measure of room here");
            return;
        }
        room("fool", 1, watch -> watch.fool(4));
        room("caught", 1, watch -> watch.caught(20));
        room("rows", 1, watch -> watch.rows(6));
        room("swap", 1, watch -> watch.swap(0, 1));
        room("rest", 1, ShellWatch::rest);
        room("bet", 1, watch -> watch.bet(0, 1));
        room("odds", 1, watch -> watch.odds(0));
        room("undo", 1, ShellWatch::undo);
        room("checksum", 1, ShellWatch::checksum);
        room("suspect", 1, watch -> watch.suspect(0));
        int[][] setup = Check.words("shells 8;odds 1+2*3;sly 9;scratch 0 1;");
        room("append and load", 3, watch -> {
            put(watch, setup);
            watch.load(38);
        });
        int[][] script = Check.words("repeat 20(repeat 20(swap 0 1;););");
        room("append and run", 3, watch -> {
            put(watch, script);
            watch.run(33);
        });
        Check.finish();
    }

    private static void put(ShellWatch watch, int[][] words) {
        for (int[] w : words) {
            watch.append(w[0], w[1], w[2], w[3], w[4]);
        }
    }

    private static long allocated() {
        return ((com.sun.management.ThreadMXBean) ManagementFactory.getThreadMXBean())
                .getThreadAllocatedBytes(Thread.currentThread().getId());
    }

    private static void room(String what, int calls, Call call) {
        int[][] setup = Check.words("shells 6;sly 9;blink 0 9999;odds shells+steps*2;purse 9999;");
        int most = (Watch.MOST_CALLS - setup.length - 1) / calls;
        long before = allocated();
        ShellWatch watch = new ShellWatch();
        put(watch, setup);
        Check.is("shells of the object measured", watch.load(59), 6);
        for (int i = 0; i < most; i++) {
            call.make(watch);
        }
        long made = allocated() - before;
        System.out.println(what + ": " + made + " bytes");
        Check.is("room of " + what, made < MOST_BYTES, true);
    }
}
