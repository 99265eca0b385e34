import java.lang.management.ManagementFactory;
import java.util.function.Consumer;

/** All calls of a run live in one room of 7.3 million fields and elements: 512 calls of the dearest ones fit in it. */
public final class RoomTest {
    private static final int CALLS = 480;
    private static final long ROOM_IN_BYTES = 4L * 7300000;

    private static final Check check = new Check("RoomTest");
    private static final com.sun.management.ThreadMXBean THREADS =
        (com.sun.management.ThreadMXBean) ManagementFactory.getThreadMXBean();

    public static void main(String[] args) {
        fits("nothing", x -> { });
        fits("pass(400) and undo()", x -> {
            if (x.value(0) < 80000) {
                x.pass(400);
            } else {
                x.undo();
            }
        }, CALLS / 2);
        fits("print()", SynodicWheels::print);
        fits("highWater(1000)", x -> x.highWater(1000));
        fits("market(1000)", x -> x.market(1000));
        fits("nextMarket()", SynodicWheels::nextMarket);
        fits("nextMeeting(31)", x -> x.nextMeeting(31));
        fits("byRemainders(31)", x -> x.byRemainders(31));
        fits("comesBack()", SynodicWheels::comesBack);
        fits("errors(1000)", x -> x.errors(1000));
        fits("bestLag(200)", x -> x.bestLag(200));
        fits("parse()", SynodicWheels::parse);
        fits("digest()", SynodicWheels::digest);
        check.end();
    }

    /** Five wheels whose meeting and coming back are too far to be found, in the house and in the text. */
    private static SynodicWheels house() {
        SynodicWheels x = Houses.wheels(59, 1, 58, 2, 57, 3, 55, 4, 53, 5);
        x.setSkip(1, 0, 5, 1);
        x.setMarket(2, 500, 400, 5);
        x.setDay(3, true);
        Houses.write(x, "59,1;58,2@0,5+;57,3;");
        return x;
    }

    private static void fits(String call, Consumer<SynodicWheels> calls) {
        fits(call, calls, CALLS);
    }

    private static void fits(String call, Consumer<SynodicWheels> calls, int times) {
        long before = THREADS.getCurrentThreadAllocatedBytes();
        SynodicWheels x = house();
        for (int k = 0; k < times; k++) {
            calls.accept(x);
        }
        long bytes = THREADS.getCurrentThreadAllocatedBytes() - before;
        check.isTrue(call + ", " + times + " times, in " + bytes + " bytes", bytes <= ROOM_IN_BYTES);
    }
}
