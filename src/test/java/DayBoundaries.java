/** The sentences of the promises 16 to 22: meetings, multiples, coming back, errors, the best lag and the share. */
final class DayBoundaries {
    private static final Class<IllegalArgumentException> ARGUMENT = IllegalArgumentException.class;
    private static final int NONE = SynodicWheels.NONE;
    private static final int[] COPRIME = {59, 58, 57, 55, 53};

    private final Check check;

    DayBoundaries(Check check) {
        this.check = check;
    }

    void run() {
        nextMeeting();
        nextMeetingOfFarDays();
        byRemainders();
        byRemaindersNever();
        multiple();
        sets();
        comesBack();
        comesBackOfFarDays();
        errors();
        errorsFromToday();
        errorsRange();
        bestLag();
        bestLagOfSeveral();
        bestLagDays();
        kept();
    }

    /** Wheels of COPRIME teeth that meet at their marks of 0 after so many days. */
    private static SynodicWheels meetAfter(int count, int days) {
        SynodicWheels x = new SynodicWheels();
        for (int k = 0; k < count; k++) {
            x.addWheel(COPRIME[k], Math.floorMod(-days, COPRIME[k]));
        }
        return x;
    }

    private void nextMeeting() {
        check.sentence("Promise 16", "Finds the next day on which a set of wheels meets, day by day, from today on.");
        SynodicWheels x = Houses.wheels(3, 0, 5, 0);
        x.setSkip(1, 0, 0, -1);
        x.setWheel(1, 0, 4);
        // The wheel 1 moves on two days of three: 0, 1, 2, 2, 3, 4, 4, 0.
        check.same("with a skip", x.nextMeeting(2), 5);
        check.same("both", x.nextMeeting(3), 6);
        check.same("the day stays", x.value(0), 0);
        check.same("the position stays", x.wheel(1, 1), 0);
        check.sentence("Promise 16", "Returns the number of days until then, 0 for today");
        x.pass(5);
        check.same("today", x.nextMeeting(2), 0);
        check.same("tomorrow", x.nextMeeting(3), 1);
        x.pass(1);
        check.same("both today", x.nextMeeting(3), 0);
        x.pass(1);
        check.same("behind it", x.nextMeeting(1), 2);
    }

    private void nextMeetingOfFarDays() {
        check.sentence("Promise 16", "NONE if it would be more than 30000 days.");
        for (int days : new int[] {0, 1, 29999, 30000}) {
            check.same(days + " days", meetAfter(3, days).nextMeeting(7), days);
        }
        for (int days : new int[] {30001, 60000, 100000}) {
            check.same(days + " days", meetAfter(3, days).nextMeeting(7), NONE);
        }
        check.same("never", Houses.wheels(4, 0, 4, 1).nextMeeting(3), NONE);
    }

    private void byRemainders() {
        check.sentence("Promise 17", "Finds the next day on which a set of wheels would meet if they had no skips");
        SynodicWheels x = Houses.wheels(3, 0, 5, 0);
        x.setSkip(1, 0, 0, -1);
        x.setWheel(1, 0, 4);
        check.same("without regard to its skip", x.byRemainders(2), 4);
        check.same("both", x.byRemainders(3), 9);
        x.pass(1);
        check.same("from today on", x.byRemainders(2), 3);
        check.sentence("Promise 17", "Returns the number of days until then; -1 if they never meet.");
        int all = 59 * 58 * 57 * 55 * 53;
        for (int days : new int[] {0, 1, 30000, 30001, 100000, 123456789, all - 1}) {
            check.same(days + " days", meetAfter(5, days).byRemainders(31), days);
        }
        check.same("a whole round is today", meetAfter(5, all).byRemainders(31), 0);
        for (int position = 0; position < 60; position++) {
            SynodicWheels y = Houses.wheels(60, position);
            for (int mark = 0; mark < 60; mark++) {
                y.setWheel(0, position, mark);
                int due = mark >= position ? mark - position : mark - position + 60;
                check.same("from " + position + " to " + mark, y.byRemainders(1), due);
            }
        }
        SynodicWheels z = Houses.wheels(2, 0, 60, 0, 60, 59, 2, 1);
        z.setWheel(1, 59, 0);
        check.same("the last wheel alone", z.byRemainders(8), 1);
        check.same("wheels in the middle", z.byRemainders(6), 1);
    }

    private void byRemaindersNever() {
        check.same("the same teeth", Houses.wheels(2, 0, 2, 1).byRemainders(3), -1);
        check.same("a common part", Houses.wheels(6, 0, 4, 1).byRemainders(3), -1);
        check.same("a common part that fits", Houses.wheels(6, 4, 4, 2).byRemainders(3), 2);
        check.same("the last one does not fit", Houses.wheels(7, 0, 5, 0, 3, 0, 2, 0, 60, 59).byRemainders(31), -1);
        check.same("the first one does not fit", Houses.wheels(60, 59, 7, 0, 5, 0, 3, 0, 2, 0).byRemainders(31), -1);
        check.same("those behind do not help", Houses.wheels(6, 0, 4, 1, 5, 0, 7, 3).byRemainders(15), -1);
        check.same("nor does one of them", Houses.wheels(6, 0, 4, 1, 5, 0, 7, 3).byRemainders(7), -1);
        check.same("without the one that does not fit", Houses.wheels(60, 59, 7, 0, 5, 0, 3, 0, 2, 0).byRemainders(30), 0);
    }

    private void multiple() {
        check.sentence("Promise 18", "Returns the least common multiple of the teeth of a set of wheels.");
        check.sentence("Promise 18", "Returns the multiple.");
        for (int a = 2; a <= 60; a += 7) {
            for (int b = 2; b <= 60; b++) {
                int due = a;
                while (due % b != 0) {
                    due += a;
                }
                check.same("of " + a + " and " + b, Houses.wheels(a, 0, b, 0).multiple(3), due);
            }
        }
        check.same("of the five", meetAfter(5, 0).multiple(31), 59L * 58 * 57 * 55 * 53);
        check.same("of 2 five times", Houses.wheels(2, 0, 2, 1, 2, 0, 2, 1, 2, 0).multiple(31), 2);
        SynodicWheels x = Houses.wheels(60, 0, 48, 0, 7, 0, 2, 0, 59, 0);
        int[] alone = {60, 48, 7, 2, 59};
        for (int k = 0; k < 5; k++) {
            check.same("of the wheel " + k, x.multiple(1 << k), alone[k]);
        }
        x.setSkip(4, 0, 0, 1);
        check.same("of the first and the last one", x.multiple(17), 3540);
        check.same("of all", x.multiple(31), 99120);
    }

    private void sets() {
        for (int promise = 16; promise <= 18; promise++) {
            check.sentence("Promise " + promise, "`set`: a set of wheels that are there, not empty");
            check.sentence("Promise " + promise, "Throws `IllegalArgumentException` if set is out of range");
            for (int count = 0; count <= 5; count++) {
                setsOf(promise, count);
            }
        }
    }

    private static long meet(SynodicWheels x, int promise, int set) {
        return promise == 16 ? x.nextMeeting(set) : promise == 17 ? x.byRemainders(set) : x.multiple(set);
    }

    private void setsOf(int promise, int count) {
        String of = " of " + count + " wheels";
        SynodicWheels x = new SynodicWheels();
        for (int k = 0; k < count; k++) {
            x.addWheel(2 + k, 0);
        }
        for (int set = 1; set < 1 << count; set++) {
            int some = set;
            check.taken("the set " + set + of, () -> meet(x, promise, some));
        }
        for (int set : new int[] {0, -1, 1 << count, (1 << count) + 1, 32, 64, 1 << 30, 1 << 31, Integer.MAX_VALUE}) {
            check.argument("the set " + set + of, x, () -> meet(x, promise, set));
        }
    }

    private void comesBack() {
        check.sentence("Promise 19", "Finds after how many days all wheels come back to their present positions together");
        SynodicWheels x = Houses.wheels(6, 5, 4, 1);
        check.same("of 6 and 4", x.comesBack(), 12);
        x.setWheel(0, 2, 3);
        check.same("of other positions", x.comesBack(), 12);
        x.setSkip(1, 0, 0, 1);
        // The wheel 1 moves by 7 teeth in 6 days.
        check.same("with a skip", x.comesBack(), 24);
        x.pass(24);
        check.same("the position of 0", x.wheel(0, 1), 2);
        check.same("the position of 1", x.wheel(1, 1), 1);
        check.sentence("Promise 19", "Returns the number of days, 1 or more");
        check.same("of 2", Houses.wheels(2, 1).comesBack(), 2);
        SynodicWheels y = Houses.wheels(2, 0, 2, 0);
        y.setSkip(1, 0, 0, 1);
        check.same("of 2 and 3 halves of 2", y.comesBack(), 4);
        check.same("of five wheels of 2", Houses.wheels(2, 0, 2, 1, 2, 0, 2, 1, 2, 0).comesBack(), 2);
    }

    private void comesBackOfFarDays() {
        check.sentence("Promise 19", "NONE if it would be more than 30000 days, or there are no wheels.");
        check.same("without wheels", new SynodicWheels().comesBack(), NONE);
        check.same("29640 days", Houses.wheels(40, 3, 57, 50, 13, 1).comesBack(), 29640);
        check.same("30030 days", Houses.wheels(55, 3, 42, 5, 13, 1).comesBack(), NONE);
        // The wheel 1 moves by 23 teeth in 24 days, so it is back after 1200; the wheel 2 by 1199 of 25 then.
        SynodicWheels x = Houses.wheels(24, 0, 50, 0, 25, 0);
        x.setSkip(1, 0, 9, -1);
        x.setSkip(2, 1, 48, -1);
        check.same("30000 days", x.comesBack(), 30000);
    }

    private void errors() {
        check.sentence("Promise 20", "Counts the errors of the almanac: days on which it tells that a market is held");
        check.sentence("Promise 20", "Returns the number of such days.");
        SynodicWheels x = Houses.steadyMoon(Houses.DRY, 0, 10);
        check.same("none", x.errors(1000), 0);
        x.setWheel(1, 1, 0);
        check.same("up to the day before", x.errors(9), 0);
        check.same("it is held and not told", x.errors(10), 1);
        check.same("it is told and not held", x.errors(11), 2);
        check.same("and no more for a round", x.errors(69), 2);
        x.setDay(11, true);
        check.same("held and told on the same day is no error", x.errors(20), 2);
        SynodicWheels y = Houses.steadyMoon(Houses.WET, 0, 10);
        y.setWheel(1, 1, 0);
        check.same("lost markets are no errors", y.errors(1000), 0);
        SynodicWheels z = Houses.everyDay(0, Houses.DRY, 1, 0);
        z.setDay(1, false);
        z.setWheel(0, 1, 0);
        check.same("all days", z.errors(1000), 1000);
        check.same("without wheels", new SynodicWheels().errors(1000), 0);
    }

    private void errorsFromToday() {
        check.sentence("Promise 20", "`days`: 1 to 1000, from today on");
        SynodicWheels x = Houses.steadyMoon(Houses.DRY, 0, 10);
        x.setWheel(1, 1, 0);
        x.pass(9);
        check.same("today", x.errors(1), 1);
        check.same("today and tomorrow", x.errors(2), 2);
        x.pass(1);
        check.same("the other one today", x.errors(1), 1);
        x.pass(1);
        check.same("no error of days before", x.errors(1), 0);
        check.same("until the round is full", x.errors(59), 1);
        SynodicWheels y = Houses.steadyMoon(Houses.DRY, 0, 38);
        y.setWheel(1, 59, 0);
        check.same("the day 999 from today", y.errors(1000) - y.errors(999), 1);
    }

    private void errorsRange() {
        check.range("days", 1, 1000, ARGUMENT, () -> Houses.steadyMoon(Houses.DRY, 0, 10), (x, days) -> x.errors(days));
        check.sentence("Promise 20", "Throws `IllegalArgumentException` if days is out of range");
        check.range("days without wheels", 1, 1000, ARGUMENT, SynodicWheels::new, (x, days) -> x.errors(days));
    }

    private void bestLag() {
        check.sentence("Promise 21", "Finds the lag with which, in the next days, the number of days");
        SynodicWheels x = Houses.wheels(12, 0);
        x.setMarket(0, 540, 120, 5);
        x.setDay(4, true);
        x.setDay(5, true);
        x.setDay(6, true);
        x.setDay(7, true);
        // With 0 the days 4 to 6 are wet, with 60 and 120 two of them, with 180 day 4 alone, with 300 the days 7 to 9.
        check.same("put off on as few days as can be", x.bestLag(12), 180);
        SynodicWheels y = Houses.wheels(12, 0);
        y.setMarket(0, 540, 120, 0);
        y.setDay(3, true);
        y.setDay(4, true);
        // With 180 and 240 both are wet, with 300 and 360 the day 3.
        check.same("lost on as few days as can be", y.bestLag(12), 420);
        y.setMoon(0, 77);
        check.same("whatever the lag is", y.bestLag(12), 420);
        check.same("the lag stays", y.value(3), 77);
    }

    private void bestLagOfSeveral() {
        check.sentence("Promise 21", "Returns the lag, one of 0, 60, 120, .., 660, of several the lowest one.");
        // One minute is wet with a lag up to 120 minutes before it or behind it, on both halves of the day.
        int[][] due = {{300, 1, 0}, {0, 1, 180}, {60, 1, 240}, {120, 1, 300}, {121, 479, 0}, {121, 480, 0},
            {181, 479, 60}, {241, 479, 120}, {61, 359, 540}, {1, 359, 480}, {1, 479, 600}, {61, 479, 660},
            {781, 359, 540}, {781, 479, 660}, {700, 1, 120}, {100, 600, 0}};
        for (int[] d : due) {
            SynodicWheels x = Houses.everyDay(500, d[0], d[1], 0);
            check.same("from " + d[0] + " for " + d[1], x.bestLag(200), d[2]);
        }
        check.same("none is due", Houses.steadyMoon(Houses.WET, 0).bestLag(200), 0);
        check.same("without wheels", new SynodicWheels().bestLag(200), 0);
    }

    private void bestLagDays() {
        check.sentence("Promise 21", "`days`: 1 to 200, from today on");
        SynodicWheels x = Houses.steadyMoon(Houses.WET, 0, 19);
        check.same("up to the day before", x.bestLag(19), 0);
        check.same("up to the day", x.bestLag(20), 120);
        SynodicWheels y = Houses.steadyMoon(Houses.WET, 0, 0);
        check.same("today", y.bestLag(1), 120);
        y.pass(1);
        check.same("none of days before", y.bestLag(59), 0);
        check.same("a round later", y.bestLag(60), 120);
        SynodicWheels z = Houses.steadyMoon(Houses.WET, 3, 0);
        z.pass(1);
        check.same("one that was put off to today", z.bestLag(1), 120);
        check.same("one day of 200 that is dry", slowMoon().bestLag(200), 60);
        check.range("days", 1, 200, ARGUMENT, () -> Houses.steadyMoon(Houses.WET, 0, 0), (w, days) -> w.bestLag(days));
        check.sentence("Promise 21", "Throws `IllegalArgumentException` if days is out of range");
        check.range("days without wheels", 1, 200, ARGUMENT, SynodicWheels::new, (w, days) -> w.bestLag(days));
    }

    /** The moon moves on one day of four, and a market due each day is held at no other high water than 60. */
    private static SynodicWheels slowMoon() {
        SynodicWheels x = Houses.wheels(4, 0, 3, 0, 2, 0, 59, 0);
        x.setSkip(1, 0, 0, -1);
        x.setSkip(2, 1, 0, -1);
        x.setSkip(3, 2, 0, -1);
        x.setMoon(3, 0);
        x.setMarket(0, 181, 479, 0);
        for (int tooth = 0; tooth < 4; tooth++) {
            x.setDay(tooth, true);
        }
        return x;
    }

    private void kept() {
        check.sentence("Promise 22", "Returns the share of markets that were held.");
        check.sentence("Promise 22", "Returns the markets held so far, converted to double, divided by those held and lost");
        check.sameDouble("without wheels", new SynodicWheels().kept(), 1.0);
        SynodicWheels x = Houses.steadyMoon(Houses.WET, 5, 0);
        check.sameDouble("without any", x.kept(), 1.0);
        x.pass(5);
        check.sameDouble("put off alone", x.kept(), 1.0);
        x.pass(1);
        check.sameDouble("one lost", x.kept(), 0.0);
        x.setMoon(0, 240);
        x.pass(60);
        check.sameDouble("one of two", x.kept(), 0.5);
        x.pass(60);
        check.sameDouble("two of three", x.kept(), 2.0 / 3.0);
        SynodicWheels y = Houses.everyDay(0, Houses.DRY, 1, 0);
        y.pass(1);
        check.sameDouble("all of one", y.kept(), 1.0);
        for (int k = 0; k < 6; k++) {
            y.pass(400);
        }
        y.setMoon(0, 240);
        y.pass(13);
        check.sameDouble("2401 of 2414", y.kept(), 2401.0 / 2414.0);
        y.parse();
        check.sameDouble("behind parse()", y.kept(), 2401.0 / 2414.0);
    }
}
