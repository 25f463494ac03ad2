import java.lang.management.ManagementFactory;

/** A run's calls live in one room: an object is made once, and its calls make next to nothing. */
final class RoomTest {
    private static final int CALLS = 512;
    // One exception, or one row of seven numbers
    private static final long MOST_BYTES_A_CALL = 80;
    private static final long MOST_BYTES_AN_OBJECT = 80000;

    private interface Call {
        void make(ShellWatch watch);
    }

    public static void main(String[] args) {
        if (!(ManagementFactory.getThreadMXBean() instanceof com.sun.management.ThreadMXBean)) {
            System.out.println("no measure of room here");
            return;
        }
        Check.is("room of an object", bytesOfAnObject() <= MOST_BYTES_AN_OBJECT, true);
        room("fool", watch -> watch.fool(4));
        room("caught", watch -> watch.caught(20));
        room("rows", watch -> watch.rows(6));
        room("swap", watch -> watch.swap(0, 1));
        room("rest", ShellWatch::rest);
        room("bet", watch -> watch.bet(0, 1));
        room("odds", watch -> watch.odds(0));
        room("undo", ShellWatch::undo);
        room("checksum", ShellWatch::checksum);
        room("suspect", watch -> watch.suspect(0));
        room("append and load", watch -> {
            watch.append(0x7368656c, 0x6c732038, 0x3b6f6464, 0x7320312b, 0x32202020);
            watch.append(0x3b736c79, 0x20393b20, 0x20202020, 0x20202020, 0x20202020);
            watch.load(40);
        });
        room("append and run", watch -> {
            watch.append(0x72657065, 0x61742032, 0x30287265, 0x7374293b, 0x20202020);
            watch.run(20);
        });
        Check.finish();
    }

    private static long allocated() {
        return ((com.sun.management.ThreadMXBean) ManagementFactory.getThreadMXBean())
                .getThreadAllocatedBytes(Thread.currentThread().getId());
    }

    private static long bytesOfAnObject() {
        new ShellWatch();
        allocated();
        long before = allocated();
        ShellWatch watch = new ShellWatch();
        long made = allocated() - before;
        Check.is("the object measured", watch.state(0), 3);
        System.out.println("an object: " + made + " bytes");
        return made;
    }

    private static void room(String what, Call call) {
        ShellWatch watch = Check.loaded("shells 6;sly 9;blink 0 9999;odds shells+steps*2;purse 9999;");
        call.make(watch);
        long before = allocated();
        for (int i = 0; i < CALLS; i++) {
            call.make(watch);
        }
        long made = (allocated() - before) / CALLS;
        System.out.println(what + ": " + made + " bytes a call");
        Check.is("room of " + what, made <= MOST_BYTES_A_CALL, true);
    }
}
