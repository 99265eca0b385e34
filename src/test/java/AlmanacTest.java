/** Promises 10 and 20: the printed almanac and its errors. */
public final class AlmanacTest {
    private static final Check check = new Check("AlmanacTest");

    public static void main(String[] args) {
        prints();
        countsErrors();
        countsErrorsOfSkips();
        startsWithNothingPutOff();
        readsFromTheDayOfPrinting();
        usesThePresentHours();
        refuses();
        check.end();
    }

    /** High water is at 0 every day, the hours are dry, and a market is held on tooth 0 of the wheel 1, of 3 teeth. */
    private static SynodicWheels dry() {
        SynodicWheels x = new SynodicWheels();
        x.addWheel(2, 0);
        x.addWheel(3, 0);
        x.setMarket(1, 300, 10, 2);
        x.setDay(0, true);
        return x;
    }

    private static void prints() {
        SynodicWheels x = new SynodicWheels();
        x.pass(4);
        check.same("print() without wheels", x.print(), 0);
        check.same("value(13)", x.value(13), 4);
        check.same("print() again", x.print(), 4);
        x.addWheel(10, 3);
        x.addWheel(10, 0);
        x.setSkip(1, 0, 5, -1);
        x.pass(3);
        check.same("by the almanac", x.wheel(1, 6), 3);
        check.same("in truth", x.wheel(1, 1), 2);
        check.same("print() on day 7", x.print(), 4);
        check.same("printed on", x.value(13), 7);
        check.same("by the new almanac", x.wheel(1, 6), 2);
        x.pass(9);
        check.same("by the new almanac, days on", x.wheel(1, 6), 1);
        check.same("the other one", x.wheel(0, 6), 5);
        x.setWheel(0, 9, 9);
        check.same("the almanac stays", x.wheel(0, 6), 5);
    }

    private static void countsErrors() {
        SynodicWheels x = dry();
        check.same("no error", x.errors(1000), 0);
        x.setWheel(1, 1, 0);
        int[] due = {1, 1, 2, 3, 3, 4, 5, 5, 6};
        for (int k = 0; k < due.length; k++) {
            check.same("errors(" + (k + 1) + ")", x.errors(k + 1), due[k]);
        }
        check.same("errors(1000)", x.errors(1000), 667);
        x.print();
        check.same("errors of a new almanac", x.errors(1000), 0);
        x.setWheel(1, 0, 0);
        x.pass(2);
        check.same("from today on", x.errors(1), 1);
        check.same("errors(2) two days on", x.errors(2), 2);

        SynodicWheels none = new SynodicWheels();
        check.same("without wheels", none.errors(1000), 0);
    }

    private static void countsErrorsOfSkips() {
        SynodicWheels x = dry();
        x.setSkip(1, 0, 1, -1);
        // In truth the wheel moves on even days alone: it is at 0, 0, 1, 1, 2, 2, 0, 0, by the almanac 0, 1, 2, 0, ...
        int[] due = {0, 1, 1, 2, 2, 2, 2, 3};
        for (int k = 0; k < due.length; k++) {
            check.same("errors(" + (k + 1) + ") with a skip", x.errors(k + 1), due[k]);
        }
    }

    private static void startsWithNothingPutOff() {
        SynodicWheels x = new SynodicWheels();
        x.addWheel(12, 0);
        x.setMarket(0, 540, 120, 3);
        x.setDay(4, true);
        x.pass(5);
        check.same("printed before", x.errors(20), 0);
        x.print();
        check.same("up to the day before", x.errors(2), 0);
        check.same("it is held and not told", x.errors(3), 1);
        check.same("and never again", x.errors(100), 1);
        x.pass(3);
        check.same("behind it", x.errors(100), 0);

        // A look that ends on a day to which a market was put off leaves nothing to the next look.
        SynodicWheels y = new SynodicWheels();
        y.addWheel(12, 0);
        y.setMarket(0, 540, 120, 3);
        y.setDay(4, true);
        check.same("a short look", y.errors(5), 0);
        check.same("a look behind it", y.errors(20), 0);

        // Printed on a day of which the market is put off, and held on the next one.
        SynodicWheels z = new SynodicWheels();
        z.addWheel(12, 6);
        z.setMarket(0, 540, 120, 1);
        z.setDay(6, true);
        z.print();
        check.markets("put off and held", z, 2, 1, 0);
        check.same("told as it is", z.errors(12), 0);
    }

    private static void readsFromTheDayOfPrinting() {
        // Held on the 59th day of the moon alone, and due on each day.
        SynodicWheels x = new SynodicWheels();
        x.addWheel(59, 0);
        x.addWheel(2, 0);
        x.setMoon(0, 379);
        x.setMarket(1, 500, 479, 5);
        x.setDay(0, true);
        for (int k = 0; k < 20; k++) {
            x.pass(97);
            check.same("day " + x.value(0), x.errors(1000), 0);
        }
        x.setWheel(0, (x.wheel(0, 1) + 1) % 59, 0);
        check.same("a day too early", x.errors(59), 2);
        // A ford that is never free: what was put off never ends, and no market is told.
        SynodicWheels y = new SynodicWheels();
        y.addWheel(59, 0);
        y.setMarket(0, 500, 600, 1);
        for (int t = 0; t < 59; t++) {
            y.setDay(t, true);
        }
        for (int k = 0; k < 5; k++) {
            check.same("never free", y.errors(1000), 0);
            check.markets("never free", y, k % 2 == 0 ? 2 : 3, k % 2 == 0 ? 3 : 2, k % 2 == 0 ? 2 : 3);
            y.pass(71);
        }
    }

    private static void usesThePresentHours() {
        SynodicWheels x = dry();
        x.pass(10);
        // Now the ford is under water when the wheel 1 is at 0. In truth the market of yesterday was held before that;
        // the almanac, read with the present moon, tells that it was put off to today.
        x.setMoon(1, 333);
        check.same("another moon", x.errors(100), 1);
        x.pass(1);
        check.same("another moon since yesterday", x.errors(100), 0);
        x.setMarket(0, 700, 100, 1);
        x.setDay(1, true);
        check.same("another market", x.errors(100), 0);
        x.setSkip(1, 0, 0, 1);
        check.isTrue("the moon alone makes errors", x.errors(100) > 0);
        x.setMarket(0, 700, 600, 0);
        check.same("none is due", x.errors(100), 0);
    }

    private static void refuses() {
        SynodicWheels x = dry();
        check.argument("errors(0)", x, () -> x.errors(0));
        check.argument("errors(-1)", x, () -> x.errors(-1));
        check.argument("errors(1001)", x, () -> x.errors(1001));
        check.same("errors(1)", x.errors(1), 0);
    }
}
