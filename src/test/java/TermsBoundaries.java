/** The sentences of the document's terms about wheels, days, meetings, tides, markets and the almanac. */
final class TermsBoundaries {
    private static final Class<IllegalStateException> STATE = IllegalStateException.class;
    private static final int NONE = SynodicWheels.NONE;

    private final Check check;

    TermsBoundaries(Check check) {
        this.check = check;
    }

    void run() {
        divisionAndModulo();
        fiveHundredAndTwelveCalls();
        atMostFiveWheels();
        teethPositionAndMark();
        noSkipOrOne();
        daysFromZero();
        movesRoundTheLastTooth();
        movesInAscendingOrder();
        comesToTheToothByTheMoveOfThisDay();
        standsOrMovesByTwo();
        standingDriverCounts();
        thenTheNextDay();
        meetsIfEachIsAtItsMark();
        moonIsWheelZero();
        firstHighWater();
        secondHighWater();
        waterOfThisDayAlone();
        marketIsWheelZeroAndEmpty();
        openingAndLength();
        dueBySetOrPutOff();
        heldIfDryInEachMinute();
        putOffFewerThanPatience();
        twoThatComeTogether();
        noWheelsNoTides();
        positionsOfThatDay();
        countedFirst();
        almanacOfItsDay();
        almanacOfThePresent();
        almanacFromItsFirstDay();
        printedOnDayZero();
        wheelsThatComeLater();
        none();
    }

    private void divisionAndModulo() {
        check.sentence("What it is", "Wheels of days");
        for (int teeth = 2; teeth <= 60; teeth++) {
            SynodicWheels x = Houses.wheels(teeth, 0);
            for (int position = 0; position < teeth; position++) {
                // The highest whole minute that is not behind position * 1440 / teeth.
                int minute = 0;
                while ((minute + 1) * teeth <= position * 1440) {
                    minute++;
                }
                int due = minute < 720 ? minute : minute - 720;
                check.same("tooth " + position + " of " + teeth, x.highWater(position), due);
            }
            x.pass(teeth - 1);
            x.addWheel(teeth, 0);
            check.same("0 minus days modulo " + teeth, x.wheel(1, 6), 0);
            x.setWheel(0, teeth - 1, 0);
            check.same("days until the tooth 0 of " + teeth, x.byRemainders(1), 1);
        }
    }

    private void fiveHundredAndTwelveCalls() {
        check.sentence("What it is", "An object is used for at most 512 calls after it has been made");
        SynodicWheels x = new SynodicWheels();
        for (int call = 1; call < 512; call++) {
            x.pass(1);
        }
        check.same("value(0), the call 512", x.value(0), 511);
        SynodicWheels y = new SynodicWheels();
        y.addWheel(9, 8);
        for (int call = 2; call <= 510; call++) {
            y.setWheel(0, call % 9, call % 9);
        }
        check.same("undo(), the call 511", y.undo(), 3);
        check.same("wheel(0, 1), the call 512", y.wheel(0, 1), 509 % 9);
    }

    private void atMostFiveWheels() {
        check.sentence("Terms", "There are at most 5 wheels, numbered from 0.");
        SynodicWheels x = new SynodicWheels();
        for (int k = 0; k < 5; k++) {
            check.same("the number of the wheel", x.addWheel(2, 0), k);
        }
        check.refused("a sixth wheel", x, STATE, () -> x.addWheel(2, 0));
        check.same("the wheels", x.value(1), 5);
        check.same("the teeth of the wheel 4", x.wheel(4, 0), 2);
        check.index("the wheel 5", x, () -> x.wheel(5, 0));
    }

    private void teethPositionAndMark() {
        check.sentence("Terms", "A wheel has 2 to 60 teeth, numbered from 0");
        for (int teeth = 2; teeth <= 60; teeth++) {
            SynodicWheels x = new SynodicWheels();
            x.addWheel(teeth, teeth - 1);
            check.wheel("at its last tooth", x, 0, teeth, teeth - 1, 0);
            x.setWheel(0, 0, teeth - 1);
            check.wheel("with its mark at the last tooth", x, 0, teeth, 0, teeth - 1);
        }
    }

    private void noSkipOrOne() {
        check.sentence("Terms", "It has no skip (initially), or one");
        SynodicWheels x = Houses.wheels(4, 0, 4, 0, 10, 0);
        for (int k = 0; k < 3; k++) {
            check.wheel("initially", x, k, k < 2 ? 4 : 10, 0, 0, NONE, NONE, 0);
        }
        x.setSkip(2, 0, 1, 1);
        x.setSkip(2, 1, 3, -1);
        check.wheel("the last one", x, 2, 10, 0, 0, 1, 3, -1);
        x.pass(1);
        check.same("the first one does nothing", x.wheel(2, 1), 1);
        x.pass(2);
        check.same("the last one does", x.wheel(2, 1), 2);
    }

    private void daysFromZero() {
        check.sentence("Terms", "Days are counted from 0.");
        SynodicWheels x = new SynodicWheels();
        check.same("the first day", x.value(0), 0);
        x.pass(1);
        check.same("the second day", x.value(0), 1);
    }

    private void movesRoundTheLastTooth() {
        check.sentence("Terms", "When a day passes, the wheels move in ascending order: a wheel moves on by 1 tooth");
        for (int teeth = 2; teeth <= 60; teeth++) {
            SynodicWheels x = Houses.wheels(teeth, teeth - 2);
            x.pass(1);
            check.same("the last tooth of " + teeth, x.wheel(0, 1), teeth - 1);
            x.pass(1);
            check.same("tooth 0 of " + teeth, x.wheel(0, 1), 0);
        }
    }

    /** Each wheel is driven by the one before it, on the tooth that that one reaches by its own skip. */
    private void movesInAscendingOrder() {
        SynodicWheels x = Houses.wheels(9, 8, 10, 0, 11, 0, 12, 0, 13, 0);
        x.setSkip(1, 0, 0, 1);
        x.setSkip(2, 1, 2, -1);
        x.setSkip(3, 2, 0, 1);
        x.setSkip(4, 3, 2, 1);
        int[] due = {0, 2, 0, 2, 2};
        check.same("a meeting of the next day", x.nextMeeting(1), 1);
        x.pass(1);
        for (int k = 0; k < 5; k++) {
            check.same("the position of " + k, x.wheel(k, 1), due[k]);
        }
    }

    private void comesToTheToothByTheMoveOfThisDay() {
        SynodicWheels x = Houses.wheels(7, 3, 9, 0);
        x.setSkip(1, 0, 3, -1);
        x.pass(1);
        check.same("the driver was there before its move", x.wheel(1, 1), 1);
        x.setSkip(1, 0, 5, -1);
        x.pass(1);
        check.same("the driver comes there", x.wheel(1, 1), 1);
        SynodicWheels y = Houses.wheels(7, 0, 9, 4, 9, 0);
        y.setSkip(1, 0, 1, 1);
        y.setSkip(2, 1, 5, -1);
        y.pass(1);
        check.same("the driver moves by 2", y.wheel(1, 1), 6);
        check.same("and has passed the tooth without coming to it", y.wheel(2, 1), 1);
    }

    private void standsOrMovesByTwo() {
        for (int teeth = 2; teeth <= 60; teeth++) {
            for (int back = 1; back <= 2; back++) {
                int position = teeth - back;
                SynodicWheels x = Houses.wheels(2, 1, teeth, position, teeth, position);
                x.setSkip(1, 0, 0, -1);
                x.setSkip(2, 0, 0, 1);
                x.pass(1);
                check.same("it stands at " + position + " of " + teeth, x.wheel(1, 1), position);
                check.same("by 2 from " + position + " of " + teeth, x.wheel(2, 1), 2 - back);
            }
        }
    }

    private void standingDriverCounts() {
        check.sentence("Terms", "A driver that stands still on that tooth counts as well.");
        SynodicWheels x = Houses.wheels(5, 0, 4, 2, 6, 0);
        x.setSkip(1, 0, 1, -1);
        x.setSkip(2, 1, 2, 1);
        x.pass(1);
        check.same("the driver stands", x.wheel(1, 1), 2);
        check.same("its wheel moves by 2", x.wheel(2, 1), 2);
    }

    private void thenTheNextDay() {
        check.sentence("Terms", "Then the day is the next one.");
        SynodicWheels x = new SynodicWheels();
        for (int day = 1; day <= 3; day++) {
            x.pass(1);
            check.same("the day", x.value(0), day);
        }
        x.pass(400);
        check.same("the day", x.value(0), 403);
    }

    private void meetsIfEachIsAtItsMark() {
        check.sentence("Terms", "A set of wheels (bit k for the wheel k) meets on a day if each of them is at its mark.");
        SynodicWheels x = Houses.wheels(60, 59, 60, 58, 60, 57, 60, 56, 60, 55);
        for (int k = 0; k < 5; k++) {
            check.same("the bit of wheel " + k, x.nextMeeting(1 << k), k + 1);
        }
        check.same("one of two at its mark is no meeting", x.nextMeeting(3), NONE);
        x.setWheel(1, 59, 0);
        check.same("both at their marks, the others not", x.nextMeeting(3), 1);
        x.setWheel(4, 0, 0);
        check.same("the last one at its mark", x.nextMeeting(16), 0);
        check.same("the last one alone at its mark", x.nextMeeting(17), NONE);
    }

    private void moonIsWheelZero() {
        check.sentence("Terms", "One of the wheels is the moon, initially wheel 0.");
        SynodicWheels x = Houses.wheels(12, 1, 12, 2);
        check.same("the moon", x.value(2), 0);
        check.same("high water of the wheel 0", x.highWater(0), 120);
        x.setMoon(1, 0);
        check.same("high water of the wheel 1", x.highWater(0), 240);
    }

    private void firstHighWater() {
        check.sentence("Terms", "With its teeth n and its position p, the first high water of the day");
        int[][] due = {{2, 0, 0, 0}, {2, 1, 0, 0}, {7, 3, 0, 617}, {59, 58, 0, 695}, {60, 59, 0, 696}, {11, 10, 0, 589},
            {60, 0, 719, 719}, {60, 1, 695, 719}, {60, 1, 696, 0}, {60, 59, 23, 719}, {60, 59, 24, 0},
            {60, 59, 719, 695}, {48, 24, 0, 0}, {48, 23, 29, 719}, {48, 23, 30, 0}, {48, 25, 1, 31}, {7, 6, 206, 0},
            {7, 6, 205, 719}};
        for (int[] d : due) {
            SynodicWheels x = Houses.wheels(d[0], d[1]);
            check.same("the lag", x.value(3), 0);
            x.setMoon(0, d[2]);
            check.same("tooth " + d[1] + " of " + d[0] + " with a lag of " + d[2], x.highWater(0), d[3]);
        }
    }

    private void waterIs(int lag, int minute, boolean wet) {
        SynodicWheels x = Houses.everyDay(lag, minute, 1, 0);
        check.same("the minute " + minute + " with high water at " + lag, x.market(0), wet ? 3 : 1);
    }

    private void secondHighWater() {
        waterIs(300, 899, false);
        waterIs(300, 900, true);
        waterIs(300, 1020, true);
        waterIs(300, 1140, true);
        waterIs(300, 1141, false);
        waterIs(719, 1439, true);
    }

    private void waterOfThisDayAlone() {
        check.sentence("Terms", "The ford is under water from 120 minutes before each high water to 120 minutes behind it");
        int[][] wet = {{120, 0}, {120, 240}, {120, 720}, {120, 960}, {121, 1}, {0, 0}, {0, 120}, {0, 600}, {0, 840},
            {719, 599}, {719, 839}, {719, 1319}, {719, 1439}, {599, 1439}, {598, 1438}, {600, 1439}};
        int[][] dry = {{120, 241}, {120, 719}, {120, 961}, {121, 0}, {0, 121}, {0, 599}, {0, 841}, {719, 598},
            {719, 840}, {719, 1318}, {598, 1439}};
        for (int[] w : wet) {
            waterIs(w[0], w[1], true);
        }
        for (int[] d : dry) {
            waterIs(d[0], d[1], false);
        }
        // The second water of yesterday, at 1439, and the first one of tomorrow, at 0.
        waterIs(719, 0, false);
        waterIs(0, 1439, false);
    }

    private void marketIsWheelZeroAndEmpty() {
        check.sentence("Terms", "One of the wheels tells the market, initially wheel 0, by a set of its teeth");
        SynodicWheels x = Houses.wheels(3, 0, 5, 0);
        check.same("the wheel of the market", x.value(4), 0);
        check.same("the teeth in the set", x.value(8), 0);
        check.markets("with an empty set", x, 0, 0, 0, 0);
        x.setDay(2, true);
        check.markets("by the wheel 0", x, 0, 0, 1, 0, 0, 1);
        for (int t = 0; t < 60; t++) {
            SynodicWheels y = Houses.steadyMoon(Houses.DRY, 0, t);
            check.same("due on the tooth " + t, y.nextMarket(), t);
            y.pass(1);
            check.same("and on no other one", y.nextMarket(), t == 0 ? 59 : t - 1);
        }
    }

    /** High water at the lag and half a day later, and the hours that a new house has. */
    private void initialHours(int lag, int due) {
        SynodicWheels x = Houses.wheels(2, 0);
        x.setMoon(0, lag);
        x.setDay(0, true);
        check.same("the initial hours with high water at " + lag, x.market(0), due);
    }

    private void openingAndLength() {
        check.sentence("Terms", "The market has an opening minute, 0 to 1439, initially 540, and a length");
        check.values("initially", new SynodicWheels(), 0, 0, 0, 0, 0, 540, 120);
        initialHours(419, 1);
        initialHours(420, 2);
        initialHours(59, 2);
        initialHours(60, 1);
        // Behind the minute 1439 it is dry enough, and in the minutes behind midnight too.
        check.same("it ends at 1439", Houses.everyDay(240, 1439, 600, 0).market(0), 1);
        check.same("it ends there, and not tomorrow", Houses.everyDay(0, 841, 600, 0).market(0), 1);
        check.same("the last minute of all", Houses.everyDay(599, 1439, 1, 0).market(0), 3);
        check.same("up to the last minute of all", Houses.everyDay(599, 840, 600, 0).market(0), 3);
        check.same("the first minute of all", Houses.everyDay(120, 0, 1, 0).market(0), 3);
        check.same("one minute", Houses.everyDay(121, 0, 1, 0).market(0), 1);
        check.same("two minutes", Houses.everyDay(121, 0, 2, 0).market(0), 3);
    }

    private void dueBySetOrPutOff() {
        check.sentence("Terms", "On a day a market is due if the position of its wheel is in the set");
        check.markets("in the set", Houses.steadyMoon(Houses.DRY, 0, 1), 0, 1, 0);
        check.markets("put off to the day", Houses.steadyMoon(Houses.WET, 1, 1), 0, 2, 3, 0);
        check.markets("in the set and put off", Houses.steadyMoon(Houses.WET, 1, 1, 2), 0, 2, 3, 0);
    }

    private void heldIfDryInEachMinute() {
        check.sentence("Terms", "A market that is due can be held if the ford is not under water in any of its minutes.");
        // With high water at 360 and 1080 the ford is under water from 240 to 480 and from 960 to 1200.
        int[][] hours = {{140, 100, 1}, {140, 101, 3}, {480, 100, 3}, {481, 479, 1}, {481, 480, 3}, {100, 600, 3},
            {300, 1, 3}, {900, 300, 3}, {900, 60, 1}, {900, 61, 3}, {1200, 10, 3}, {1201, 600, 1}};
        for (int[] h : hours) {
            SynodicWheels x = Houses.everyDay(360, h[0], h[1], 0);
            check.same("from " + h[0] + " for " + h[1], x.market(0), h[2]);
        }
    }

    private void putOffFewerThanPatience() {
        check.sentence("Terms", "Otherwise it is put off to the next day, if it has been put off fewer than the patience");
        for (int patience = 0; patience <= 5; patience++) {
            SynodicWheels x = Houses.steadyMoon(Houses.WET, patience, 0);
            for (int day = 0; day <= 7; day++) {
                int due = day < patience ? 2 : day == patience ? 3 : 0;
                check.same("patience " + patience + ", day " + day, x.market(day), due);
            }
        }
        SynodicWheels x = Houses.wheels(60, 0);
        x.setDay(0, true);
        x.setMoon(0, 540);
        check.same("the initial patience", x.value(7), 2);
        check.markets("with the initial patience", x, 2, 2, 3, 0);
    }

    private void twoThatComeTogether() {
        check.markets("the older one counts", Houses.steadyMoon(Houses.WET, 2, 0, 1), 2, 2, 3, 0, 0);
        check.markets("lost together", Houses.steadyMoon(Houses.WET, 2, 0, 2), 2, 2, 3, 0, 0);
        check.markets("one behind the lost one", Houses.steadyMoon(Houses.WET, 2, 0, 3), 2, 2, 3, 2, 2, 3, 0);
        check.markets("day by day", Houses.steadyMoon(Houses.WET, 1, 0, 1, 2, 3, 4), 2, 3, 2, 3, 2, 3, 0);
        SynodicWheels x = Houses.steadyMoon(Houses.WET, 2, 0, 1, 2);
        x.pass(1);
        check.same("put off once", x.value(12), 1);
        x.pass(1);
        check.same("put off twice", x.value(12), 2);
        x.setMoon(0, 240);
        check.same("held as one market", x.pass(1), 1);
        check.markets("the other one is forgotten", x, 0, 0, 0);
        check.values("the counts", x, 3, 2, 0, 240, 1, Houses.WET, 1, 2, 3, 1, 2, 0, 0, 0);
    }

    private void noWheelsNoTides() {
        check.sentence("Terms", "Without wheels there are no tides and markets.");
        SynodicWheels x = Houses.steadyMoon(Houses.WET, 5, 0);
        x.pass(1);
        check.same("a market is put off to today", x.value(12), 1);
        check.same("parse() of no wheels", x.parse(), 0);
        for (int after = 0; after <= 1000; after += 250) {
            check.same("highWater(" + after + ")", x.highWater(after), NONE);
            check.same("market(" + after + ")", x.market(after), 0);
        }
        check.same("nextMarket()", x.nextMarket(), NONE);
        check.same("pass(400)", x.pass(400), 0);
        check.values("the counts", x, 401, 0, 0, 0, 0, Houses.WET, 1, 5, 0, 0, 1, 0, 0, 1);
    }

    private void positionsOfThatDay() {
        check.sentence("Terms", "What is so on a day is looked at with the positions of that day");
        SynodicWheels x = Houses.steadyMoon(Houses.DRY, 2, 3, 4);
        x.setSkip(1, 0, 1, -1);
        // The wheel of the market moves every other day: 0, 0, 1, 1, 2, 2, 3, 3, 4, 4, 5.
        check.markets("while it stands", x, 0, 0, 0, 0, 0, 0, 1, 1, 1, 1, 0);
        x.setWheel(1, 4, 0);
        check.same("with the position of today", x.market(0), 1);
        SynodicWheels y = Houses.steadyMoon(Houses.WET, 2, 0);
        y.pass(1);
        y.setWheel(1, 30, 0);
        check.markets("what was put off is known from the day before", y, 2, 3, 0);
        SynodicWheels moon = Houses.wheels(12, 11);
        check.same("the moon today", moon.highWater(0), 600);
        check.same("the moon tomorrow", moon.highWater(1), 0);
    }

    private void countedFirst() {
        check.sentence("Terms", "When a day passes, its market is counted first");
        SynodicWheels x = Houses.steadyMoon(Houses.DRY, 0, 0);
        check.same("today's market", x.pass(1), 1);
        check.same("none on the next day", x.pass(1), 0);
        SynodicWheels y = Houses.steadyMoon(Houses.DRY, 0, 1);
        check.same("not tomorrow's market", y.pass(1), 0);
        check.same("but on its day", y.pass(1), 1);
        SynodicWheels z = Houses.steadyMoon(Houses.WET, 1, 0);
        z.pass(1);
        check.values("put off", z, 1, 2, 0, 0, 1, Houses.WET, 1, 1, 1, 0, 1, 0, 1, 0);
        z.pass(1);
        check.values("lost", z, 2, 2, 0, 0, 1, Houses.WET, 1, 1, 1, 0, 1, 1, 0, 0);
    }

    private void almanacOfItsDay() {
        check.sentence("Terms", "The almanac was printed on a day, with the positions that the wheels had then");
        SynodicWheels x = Houses.steadyMoon(Houses.DRY, 0, 0, 20);
        x.setSkip(1, 0, 0, -1);
        x.pass(10);
        x.print();
        check.same("the position that the wheel had", x.wheel(1, 6), 5);
        x.setWheel(1, 40, 0);
        x.pass(15);
        check.same("by 1 tooth each day, without skips", x.wheel(1, 6), 20);
        check.same("a market that is told and not held", x.errors(1), 1);
        check.same("printed on", x.value(13), 10);
    }

    /** On the day of printing, what is told with the hours of now is so, as long as no wheel has a skip. */
    private void almanacOfThePresent() {
        SynodicWheels x = Houses.wheels(29, 3, 7, 0);
        x.setMarket(1, 540, 120, 0);
        x.setDay(2, true);
        check.same("as it is", x.errors(1000), 0);
        x.setMoon(0, 300);
        check.same("another lag", x.errors(1000), 0);
        x.setMoon(1, 300);
        check.same("another moon", x.errors(1000), 0);
        x.setMarket(0, 100, 300, 5);
        check.same("no market", x.errors(1000), 0);
        x.setDay(17, true);
        x.setDay(18, true);
        check.same("another market", x.errors(1000), 0);
        check.isTrue("there are markets", x.nextMarket() >= 0);
        // The market's only minute is the last one under water, or the first one behind it.
        check.same("the last wet minute", Houses.everyDay(180, 300, 1, 0).errors(1000), 0);
        check.same("the first dry minute", Houses.everyDay(179, 300, 1, 0).errors(1000), 0);
        check.same("the last dry minute", Houses.everyDay(421, 300, 1, 0).errors(1000), 0);
    }

    private void almanacFromItsFirstDay() {
        // The market of tooth 4 is put off on the days 4, 5 and 6, and held on day 7.
        SynodicWheels x = Houses.wheels(12, 0);
        x.setMarket(0, 540, 120, 3);
        x.setDay(4, true);
        x.pass(5);
        check.same("printed before it was put off", x.errors(12), 0);
        x.print();
        check.same("nothing is put off to the first day", x.errors(12), 1);
        check.same("up to the day before", x.errors(2), 0);
        SynodicWheels y = Houses.wheels(12, 6);
        y.setMarket(0, 540, 120, 3);
        y.setDay(6, true);
        y.print();
        check.same("put off from the first day", y.errors(12), 0);
    }

    private void printedOnDayZero() {
        check.sentence("Terms", "(It is printed on day 0 at first.");
        SynodicWheels x = Houses.wheels(7, 3);
        check.same("printed on", x.value(13), 0);
        x.pass(8);
        check.same("printed on, days later", x.value(13), 0);
        check.same("the position by it", x.wheel(0, 6), 4);
    }

    private void wheelsThatComeLater() {
        check.sentence("Terms", "A wheel that comes later has in it, on the day of printing, the position");
        int[] daysSince = {0, 1, 6, 7, 8, 69, 70, 71, 400};
        for (int days : daysSince) {
            for (int position = 0; position < 7; position++) {
                SynodicWheels x = Houses.wheels(2, 0);
                x.pass(3);
                x.print();
                if (days > 0) {
                    x.pass(days);
                }
                x.addWheel(7, position);
                String when = days + " days later at " + position;
                check.same(when, x.wheel(1, 6), position);
                x.setSkip(1, 0, 0, -1);
                x.pass(2);
                check.same(when + " and 2 days on", x.wheel(1, 6), (position + 2) % 7);
                check.same(when + " printed on", x.print(), 3);
                check.same(when + " printed anew", x.wheel(1, 6), x.wheel(1, 1));
            }
        }
    }

    private void none() {
        check.sentence("Terms", "There is no such thing.");
        check.same("NONE", SynodicWheels.NONE, -1);
    }
}
