/** Promises 21 and 22: the best lag, and the share of markets that were held. */
public final class LagTest {
    private static final Check check = new Check("LagTest");

    public static void main(String[] args) {
        findsTheBestLag();
        takesTheLowestOfSeveral();
        countsTheDays();
        countsWhatWasPutOffBefore();
        prefersFewerDays();
        refuses();
        tellsTheShare();
        check.end();
    }

    /** High water is at the lag every day, and a market is due every day. */
    private static SynodicWheels still(int opening, int length) {
        SynodicWheels x = new SynodicWheels();
        x.addWheel(2, 0);
        x.setMarket(0, opening, length, 2);
        x.setDay(0, true);
        x.setDay(1, true);
        return x;
    }

    private static void findsTheBestLag() {
        int[][] due = {{540, 120, 60}, {0, 1, 180}, {1000, 1, 0}, {700, 300, 420}, {100, 439, 660}};
        for (int[] d : due) {
            SynodicWheels x = still(d[0], d[1]);
            x.setMoon(0, 333);
            long before = x.digest();
            check.same("market from " + d[0] + " for " + d[1], x.bestLag(200), d[2]);
            check.same("bestLag changes nothing", x.digest(), before);
        }
    }

    private static void takesTheLowestOfSeveral() {
        check.same("never dry", still(100, 600).bestLag(200), 0);
        check.same("without wheels", new SynodicWheels().bestLag(200), 0);
        SynodicWheels x = still(540, 120);
        x.setMarket(0, 540, 120, 2);
        check.same("none is due", x.bestLag(200), 0);
    }

    private static void countsTheDays() {
        SynodicWheels x = new SynodicWheels();
        x.addWheel(2, 0);
        x.addWheel(10, 0);
        x.setMarket(1, 540, 120, 2);
        x.setDay(5, true);
        check.same("bestLag(1)", x.bestLag(1), 0);
        check.same("bestLag(5)", x.bestLag(5), 0);
        check.same("bestLag(6)", x.bestLag(6), 60);
        x.setDay(5, false);
        x.addWheel(60, 20);
        x.addWheel(60, 19);
        x.setMarket(2, 540, 120, 0);
        x.setDay(39, true);
        x.setDay(40, false);
        check.same("bestLag(19)", x.bestLag(19), 0);
        check.same("bestLag(20)", x.bestLag(20), 60);
        check.same("bestLag(200)", x.bestLag(200), 60);
    }

    private static void countsWhatWasPutOffBefore() {
        SynodicWheels x = new SynodicWheels();
        x.addWheel(2, 0);
        x.addWheel(10, 0);
        x.setMarket(1, 540, 120, 2);
        x.setDay(0, true);
        x.pass(1);
        check.same("put off to today", x.value(12), 1);
        check.same("bestLag(1)", x.bestLag(1), 60);
        x.setMarket(1, 1000, 120, 2);
        check.same("bestLag(1) at a dry hour", x.bestLag(1), 0);
    }

    /** By its lag a market is put off on one day, on several, or lost; all of these days count alike. */
    private static void prefersFewerDays() {
        SynodicWheels x = new SynodicWheels();
        x.addWheel(12, 0);
        x.setMarket(0, 540, 120, 5);
        x.setDay(4, true);
        // With the lag 0 the positions 4, 5, 6 are wet, with 300 the positions 1.5 to 4.5, with 360 those from 1 to 3.
        check.same("twelve teeth", x.bestLag(12), 60 * dryLag(4));
        check.same("ended before it is due", x.bestLag(4), 0);
        // Wet on position 4 with the lags 0 to 0, and so only the number of wet days tells which lag is best.
        x.setDay(5, true);
        x.setDay(6, true);
        x.setDay(7, true);
        check.same("four teeth in a row", x.bestLag(12), 60 * fewestOf(4, 7));
    }

    private static boolean wet(int position, int lag) {
        int water = (position * 120 + lag) % 720;
        for (int minute = 540; minute < 660; minute++) {
            if (Math.abs(minute - water) <= 120 || Math.abs(minute - water - 720) <= 120) {
                return true;
            }
        }
        return false;
    }

    private static int dryLag(int position) {
        int step = 0;
        while (wet(position, 60 * step)) {
            step++;
        }
        return step;
    }

    /** Markets are due from one position to another, in one round that begins at 0. */
    private static int fewestOf(int from, int to) {
        int best = 0;
        int fewest = Integer.MAX_VALUE;
        for (int step = 0; step < 12; step++) {
            int days = 0;
            boolean put = false;
            for (int p = 0; p < 12; p++) {
                put = (put || p >= from && p <= to) && wet(p, 60 * step);
                days += put ? 1 : 0;
            }
            if (days < fewest) {
                fewest = days;
                best = step;
            }
        }
        return best;
    }

    private static void refuses() {
        SynodicWheels x = still(540, 120);
        check.argument("bestLag(0)", x, () -> x.bestLag(0));
        check.argument("bestLag(-1)", x, () -> x.bestLag(-1));
        check.argument("bestLag(201)", x, () -> x.bestLag(201));
    }

    private static void tellsTheShare() {
        SynodicWheels x = new SynodicWheels();
        x.addWheel(12, 4);
        x.setMarket(0, 540, 120, 2);
        x.setDay(4, true);
        check.sameDouble("without any", x.kept(), 1.0);
        x.pass(2);
        check.sameDouble("put off ones do not count", x.kept(), 1.0);
        x.pass(1);
        check.sameDouble("all lost", x.kept(), 0.0);
        x.setDay(7, true);
        x.pass(1);
        check.sameDouble("one of two", x.kept(), 0.5);
        x.setDay(8, true);
        x.setDay(9, true);
        x.pass(2);
        check.sameDouble("three of four", x.kept(), 0.75);
        x.pass(12);
        // The market that is put off from 4 on is lost on 6, and 7, 8 and 9 are held.
        check.sameDouble("six of eight", x.kept(), 6.0 / 8.0);
        x.setDay(9, false);
        x.pass(12);
        check.sameDouble("eight of eleven", x.kept(), 8.0 / 11.0);
        x.undo();
        check.sameDouble("undone", x.kept(), 0.75);
    }
}
