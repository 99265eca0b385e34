/** Promises 21 and 22: the best lag, and the share of markets that were held. */
public final class LagTest {
    private static final Check check = new Check("LagTest");

    public static void main(String[] args) {
        findsTheBestLag();
        takesTheLowestOfSeveral();
        countsTheDays();
        countsWhatWasPutOffBefore();
        prefersFewerDays();
        refuses();
        tellsTheShare();
        check.end();
    }

    /** High water is at the lag every day, and a market is due every day. */
    private static SynodicWheels still(int opening, int length) {
        SynodicWheels x = new SynodicWheels();
        x.addWheel(2, 0);
        x.setMarket(0, opening, length, 2);
        x.setDay(0, true);
        x.setDay(1, true);
        return x;
    }

    private static void findsTheBestLag() {
        int[][] due = {{540, 120, 60}, {0, 1, 180}, {1000, 1, 0}, {700, 300, 420}, {100, 439, 660}};
        for (int[] d : due) {
            SynodicWheels x = still(d[0], d[1]);
            x.setMoon(0, 333);
            long before = x.digest();
            check.same("market from " + d[0] + " for " + d[1], x.bestLag(200), d[2]);
            check.same("bestLag changes nothing", x.digest(), before);
        }
    }

    private static void takesTheLowestOfSeveral() {
        check.same("never dry", still(100, 600).bestLag(200), 0);
        check.same("without wheels", new SynodicWheels().bestLag(200), 0);
        SynodicWheels x = still(540, 120);
        x.setMarket(0, 540, 120, 2);
        check.same("none is due", x.bestLag(200), 0);
    }

    private static void countsTheDays() {
        SynodicWheels x = new SynodicWheels();
        x.addWheel(2, 0);
        x.addWheel(10, 0);
        x.setMarket(1, 540, 120, 2);
        x.setDay(5, true);
        check.same("bestLag(1)", x.bestLag(1), 0);
        check.same("bestLag(5)", x.bestLag(5), 0);
        check.same("bestLag(6)", x.bestLag(6), 60);
        x.setDay(5, false);
        x.addWheel(60, 20);
        x.addWheel(60, 19);
        x.setMarket(2, 540, 120, 0);
        x.setDay(39, true);
        x.setDay(40, false);
        check.same("bestLag(19)", x.bestLag(19), 0);
        check.same("bestLag(20)", x.bestLag(20), 60);
        check.same("bestLag(200)", x.bestLag(200), 60);
    }

    private static void countsWhatWasPutOffBefore() {
        SynodicWheels x = new SynodicWheels();
        x.addWheel(2, 0);
        x.addWheel(10, 0);
        x.setMarket(1, 540, 120, 2);
        x.setDay(0, true);
        x.pass(1);
        check.same("put off to today", x.value(12), 1);
        check.same("bestLag(1)", x.bestLag(1), 60);
        x.setMarket(1, 1000, 120, 2);
        check.same("bestLag(1) at a dry hour", x.bestLag(1), 0);
    }

    /**
     * With 12 teeth high water is at 120 times the position plus the lag, modulo 720; the hours from 540 to 659 are wet
     * if that is up to 59 or from 420 on.
     */
    private static void prefersFewerDays() {
        SynodicWheels x = new SynodicWheels();
        x.addWheel(12, 0);
        x.setMarket(0, 540, 120, 5);
        x.setDay(4, true);
        check.same("position 4 is dry with 300", x.bestLag(12), 300);
        check.same("no market is due so soon", x.bestLag(4), 0);
        x.setDay(5, true);
        x.setDay(6, true);
        x.setDay(7, true);
        // With 0 the days 4 to 6 are wet, with 60 and 120 two of them, with 180 day 4 alone, with 300 the days 7 to 9.
        check.same("four days in a row", x.bestLag(12), 180);
        x.setMarket(0, 540, 120, 0);
        x.setDay(3, true);
        x.setDay(4, true);
        // Without patience a market is lost on day 4 with 0, on day 3 with 300 and 360, and none is lost with 420.
        check.same("lost ones count too", x.bestLag(12), 420);
    }

    private static void refuses() {
        SynodicWheels x = still(540, 120);
        check.argument("bestLag(0)", x, () -> x.bestLag(0));
        check.argument("bestLag(-1)", x, () -> x.bestLag(-1));
        check.argument("bestLag(201)", x, () -> x.bestLag(201));
    }

    private static void tellsTheShare() {
        SynodicWheels x = new SynodicWheels();
        x.addWheel(12, 4);
        x.setMarket(0, 540, 120, 2);
        x.setDay(4, true);
        check.sameDouble("without any", x.kept(), 1.0);
        x.pass(2);
        check.sameDouble("put off ones do not count", x.kept(), 1.0);
        x.pass(1);
        check.sameDouble("all lost", x.kept(), 0.0);
        x.setDay(7, true);
        x.pass(1);
        check.sameDouble("one of two", x.kept(), 0.5);
        x.setDay(8, true);
        x.setDay(9, true);
        x.pass(2);
        check.sameDouble("three of four", x.kept(), 0.75);
        x.pass(12);
        // The market that is put off from 4 on is lost on 6, and 7, 8 and 9 are held.
        check.sameDouble("six of eight", x.kept(), 6.0 / 8.0);
        x.setDay(9, false);
        x.pass(12);
        check.sameDouble("eight of eleven", x.kept(), 8.0 / 11.0);
        x.undo();
        check.sameDouble("undone", x.kept(), 0.75);
    }
}
