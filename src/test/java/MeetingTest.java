/** Promises 16 to 19: meetings day by day and by remainders, multiples, and positions that come back. */
public final class MeetingTest {
    private static final Check check = new Check("MeetingTest");

    public static void main(String[] args) {
        meetsDayByDay();
        meetsWithSkips();
        looksThirtyThousandDaysAhead();
        meetsByRemainders();
        neverMeets();
        tellsMultiples();
        refusesSets();
        comesBack();
        comesBackWithSkips();
        check.end();
    }

    private static SynodicWheels wheels(int... teethAndPositions) {
        SynodicWheels x = new SynodicWheels();
        for (int k = 0; k + 1 < teethAndPositions.length; k += 2) {
            x.addWheel(teethAndPositions[k], teethAndPositions[k + 1]);
        }
        return x;
    }

    private static void meetsDayByDay() {
        SynodicWheels x = wheels(6, 0, 4, 0, 9, 0);
        check.same("all at their marks", x.nextMeeting(7), 0);
        x.setWheel(0, 0, 3);
        x.setWheel(1, 0, 1);
        x.setWheel(2, 0, 6);
        int[] due = {3, 1, 9, 6, 15, 33, 33};
        for (int set = 1; set <= 7; set++) {
            check.same("nextMeeting(" + set + ")", x.nextMeeting(set), due[set - 1]);
            check.same("byRemainders(" + set + ")", x.byRemainders(set), due[set - 1]);
        }
        x.pass(9);
        check.same("today", x.nextMeeting(3), 0);
        x.pass(1);
        check.same("a day too late", x.nextMeeting(3), 11);
        check.same("the day stays", x.value(0), 10);
        check.same("the positions stay", x.wheel(0, 1), 4);
    }

    private static void meetsWithSkips() {
        SynodicWheels x = wheels(3, 0, 5, 0);
        x.setSkip(1, 0, 0, -1);
        x.setWheel(1, 0, 4);
        // It moves on two days of three: 0, 1, 2, 2, 3, 4.
        check.same("nextMeeting(2)", x.nextMeeting(2), 5);
        check.same("byRemainders(2)", x.byRemainders(2), 4);
        check.same("nextMeeting(3)", x.nextMeeting(3), 6);
        check.same("byRemainders(3)", x.byRemainders(3), 9);
        x.setSkip(1, 0, 1, 1);
        // Now it runs on the first day of three: 0, 2, 3, 4.
        check.same("nextMeeting(2) when it runs", x.nextMeeting(2), 3);
    }

    private static void looksThirtyThousandDaysAhead() {
        int[] days = {29999, 30000, 30001};
        for (int d : days) {
            SynodicWheels x = wheels(59, 58 - (d - 1) % 59, 58, 57 - (d - 1) % 58, 57, 56 - (d - 1) % 57);
            check.same("nextMeeting of " + d, x.nextMeeting(7), d <= 30000 ? d : SynodicWheels.NONE);
            check.same("byRemainders of " + d, x.byRemainders(7), d);
        }
    }

    private static void meetsByRemainders() {
        SynodicWheels x = wheels(59, 1, 58, 1, 57, 1, 55, 1, 53, 1);
        check.same("multiple(31)", x.multiple(31), 568582410L);
        check.same("byRemainders(31)", x.byRemainders(31), 568582409L);
        check.same("nextMeeting(31)", x.nextMeeting(31), SynodicWheels.NONE);
        for (int k = 0; k < 5; k++) {
            x.setWheel(k, 0, 0);
        }
        check.same("byRemainders(31) today", x.byRemainders(31), 0);
        for (int k = 0; k < 5; k++) {
            x.setWheel(k, 1, 51);
        }
        check.same("byRemainders(31) soon", x.byRemainders(31), 50);
        SynodicWheels y = wheels(60, 7, 48, 31);
        check.same("teeth with a common part", y.byRemainders(3), 113);
        y.setSkip(1, 0, 8, 1);
        check.same("without regard to skips", y.byRemainders(3), 113);
    }

    private static void neverMeets() {
        SynodicWheels x = wheels(6, 0, 4, 1, 9, 0);
        check.same("nextMeeting(3)", x.nextMeeting(3), SynodicWheels.NONE);
        check.same("byRemainders(3)", x.byRemainders(3), -1);
        check.same("byRemainders(7)", x.byRemainders(7), -1);
        check.same("byRemainders(6)", x.byRemainders(6), 27);
        x.setWheel(2, 1, 0);
        check.same("byRemainders(5)", x.byRemainders(5), -1);
        x.addWheel(5, 0);
        x.addWheel(7, 3);
        check.same("a wheel behind them does not help", x.byRemainders(11), -1);
        check.same("nor two", x.byRemainders(27), -1);
    }

    private static void tellsMultiples() {
        SynodicWheels x = wheels(60, 0, 48, 0, 7, 0, 2, 0, 59, 0);
        check.same("multiple(1)", x.multiple(1), 60);
        check.same("multiple(2)", x.multiple(2), 48);
        check.same("multiple(3)", x.multiple(3), 240);
        check.same("multiple(8)", x.multiple(8), 2);
        check.same("multiple(12)", x.multiple(12), 14);
        check.same("multiple(15)", x.multiple(15), 1680);
        check.same("multiple(31)", x.multiple(31), 99120);
        SynodicWheels y = wheels(12, 0, 12, 5);
        check.same("of the same teeth", y.multiple(3), 12);
    }

    private static void refusesSets() {
        SynodicWheels x = new SynodicWheels();
        for (int count = 0; count <= 5; count++) {
            int[] sets = {0, -1, 1 << count, (1 << count) + 1, 64, Integer.MIN_VALUE, Integer.MAX_VALUE};
            for (int set : sets) {
                check.argument("nextMeeting(" + set + ") of " + count, x, () -> x.nextMeeting(set));
                check.argument("byRemainders(" + set + ") of " + count, x, () -> x.byRemainders(set));
                check.argument("multiple(" + set + ") of " + count, x, () -> x.multiple(set));
            }
            if (count < 5) {
                x.addWheel(7, 0);
                check.same("the whole set of " + (count + 1), x.multiple((2 << count) - 1), 7);
            }
        }
    }

    private static void comesBack() {
        check.same("without wheels", new SynodicWheels().comesBack(), SynodicWheels.NONE);
        check.same("one wheel", wheels(2, 1).comesBack(), 2);
        check.same("two wheels", wheels(6, 5, 4, 1).comesBack(), 12);
        check.same("the marks do not count", wheels(6, 5).comesBack(), 6);
        check.same("29640", wheels(40, 3, 57, 50, 13, 1).comesBack(), 29640);
        check.same("30030", wheels(55, 3, 42, 5, 13, 1).comesBack(), SynodicWheels.NONE);
        check.same("five wheels", wheels(4, 0, 6, 1, 9, 2, 5, 3, 2, 0).comesBack(), 180);
        SynodicWheels x = wheels(10, 3, 4, 2);
        x.comesBack();
        check.wheel("the wheels stay", x, 0, 10, 3, 0, -1, -1, 0, 3);
    }

    private static void comesBackWithSkips() {
        SynodicWheels x = wheels(3, 0, 5, 0);
        x.setSkip(1, 0, 0, -1);
        // Two teeth in three days.
        check.same("3 and 5 with a stand", x.comesBack(), 15);
        x.setSkip(1, 0, 0, 1);
        check.same("3 and 4 teeth of 5", x.comesBack(), 15);
        SynodicWheels y = wheels(4, 0, 3, 0);
        y.setSkip(1, 0, 0, -1);
        check.same("4 and 3 with a stand", y.comesBack(), 4);
        SynodicWheels z = wheels(24, 0, 50, 0, 25, 0);
        z.setSkip(1, 0, 9, -1);
        z.setSkip(2, 1, 48, -1);
        check.same("just 30000", z.comesBack(), 30000);
    }
}
