import java.lang.management.ManagementFactory;

/** All calls of a run live in one room: the constructor makes the rows, and no call makes more of them. */
public final class RoomTest {
    private static final int RUNS = 50;

    public static void main(String[] args) {
        Check check = new Check("RoomTest");
        com.sun.management.ThreadMXBean threads =
            (com.sun.management.ThreadMXBean) ManagementFactory.getThreadMXBean();
        warmUp();
        long before = threads.getCurrentThreadAllocatedBytes();
        SynodicWheels[] made = new SynodicWheels[RUNS];
        for (int k = 0; k < RUNS; k++) {
            made[k] = new SynodicWheels();
        }
        long each = (threads.getCurrentThreadAllocatedBytes() - before) / RUNS;
        check.isTrue("an object takes " + each + " bytes, at most 10000", each <= 10000);

        before = threads.getCurrentThreadAllocatedBytes();
        for (int k = 0; k < RUNS; k++) {
            run(made[k]);
        }
        long calls = threads.getCurrentThreadAllocatedBytes() - before;
        check.isTrue("calls take " + calls + " bytes, at most 10000", calls <= 10000);
        check.end();
    }

    private static void warmUp() {
        run(new SynodicWheels());
    }

    private static void run(SynodicWheels x) {
        for (int k = 0; k < 5; k++) {
            x.addWheel(59 - k, k);
        }
        x.setSkip(1, 0, 5, 1);
        x.setMarket(2, 500, 400, 5);
        x.setDay(3, true);
        x.setMoon(4, 100);
        x.clearSkip(1);
        x.setWheel(1, 2, 3);
        for (int k = 0; k < 4; k++) {
            x.pass(400);
            x.errors(1000);
            x.bestLag(200);
            x.nextMeeting(31);
            x.comesBack();
            x.byRemainders(31);
            x.multiple(31);
            x.nextMarket();
            x.market(1000);
            x.highWater(1000);
            x.digest();
            x.print();
            x.kept();
        }
        for (int k = 0; k < 22; k++) {
            x.append(k % 4 == 0 ? '5' : k % 4 == 1 ? ',' : k % 4 == 2 ? '4' : ';');
            x.parse();
        }
        for (int k = 0; k < 3; k++) {
            x.undo();
        }
        x.clearText();
    }
}
