/** The sentences of the promises 6 to 9 and 12 to 15: moon, market, days that pass, numbers, and what they foretell. */
final class MarketBoundaries {
    private static final Class<IllegalArgumentException> ARGUMENT = IllegalArgumentException.class;
    private static final Class<IndexOutOfBoundsException> INDEX = IndexOutOfBoundsException.class;
    private static final int NONE = SynodicWheels.NONE;
    private static final int LAST_DAY = 100000;

    private final Check check;

    MarketBoundaries(Check check) {
        this.check = check;
    }

    void run() {
        setMoon();
        setMoonRanges();
        setMarket();
        setMarketKeeps();
        setMarketRanges();
        setDay();
        setDayAnswer();
        setDayTooth();
        pass();
        passRange();
        passUpToTheLastDay();
        value();
        valueOfCounts();
        valueOfWhatWasPutOff();
        highWater();
        market();
        marketOfFarDays();
        nextMarket();
        nextMarketOfFarDays();
    }

    private static SynodicWheels five() {
        return Houses.wheels(2, 1, 60, 59, 7, 3, 12, 0, 31, 30);
    }

    private void setMoon() {
        check.sentence("Promise 6", "Sets moon and lag.");
        SynodicWheels x = five();
        x.setMoon(2, 5);
        check.same("the moon", x.value(2), 2);
        check.same("the lag", x.value(3), 5);
        check.same("the wheel of the market", x.value(4), 0);
        check.same("its high water", x.highWater(0), 617 + 5);
        check.sentence("Promise 6", "Returns the previous moon.");
        check.same("another moon", x.setMoon(4, 0), 2);
        check.same("the same moon", x.setMoon(4, 719), 4);
        check.same("the first moon", five().setMoon(1, 0), 0);
        check.sentence("Promise 6", "Undoable.");
        check.undone("setMoon()", Houses::rich, y -> y.setMoon(3, 12));
        check.undone("setMoon() of the lag", Houses::rich, y -> y.setMoon(2, 300));
    }

    private void setMoonRanges() {
        check.sentence("Promise 6", "`wheel`: number of a wheel");
        check.range("wheel", 0, 4, INDEX, MarketBoundaries::five, (x, wheel) -> x.setMoon(wheel, 0));
        check.sentence("Promise 6", "Throws `IndexOutOfBoundsException` if there is no such wheel");
        check.range("wheel of one", 0, 0, INDEX, () -> Houses.wheels(9, 0), (x, wheel) -> x.setMoon(wheel, 0));
        SynodicWheels none = new SynodicWheels();
        check.index("setMoon(0, 0) without wheels", none, () -> none.setMoon(0, 0));
        check.sentence("Promise 6", "`lag`: 0 to 719");
        check.range("lag", 0, 719, ARGUMENT, MarketBoundaries::five, (x, lag) -> x.setMoon(4, lag));
        check.sentence("Promise 6", "Throws `IllegalArgumentException` if lag is out of range");
        SynodicWheels x = five();
        check.argument("setMoon(0, 720)", x, () -> x.setMoon(0, 720));
        check.argument("setMoon(0, -1)", x, () -> x.setMoon(0, -1));
    }

    private void setMarket() {
        check.sentence("Promise 7", "Sets the wheel of the market, its minutes and its patience.");
        SynodicWheels x = five();
        x.setMarket(4, 17, 18, 4);
        check.values("set", x, 0, 5, 0, 0, 4, 17, 18, 4, 0, 0, 0, 0, 0, 0);
        check.sentence("Promise 7", "Returns the previous wheel.");
        check.same("another wheel", x.setMarket(1, 0, 1, 0), 4);
        check.same("the same wheel", x.setMarket(1, 0, 1, 0), 1);
        check.same("the first wheel", five().setMarket(3, 0, 1, 0), 0);
        check.sentence("Promise 7", "Undoable.");
        check.undone("setMarket()", Houses::rich, y -> y.setMarket(4, 0, 600, 5));
        check.undone("setMarket() of the set alone", Houses::rich, y -> y.setMarket(1, 500, 100, 3));
    }

    private void setMarketKeeps() {
        check.sentence("Promise 7", "The set of teeth is empty then; what was put off to today stays.");
        SynodicWheels x = Houses.steadyMoon(Houses.WET, 3, 0, 5, 59);
        x.pass(2);
        check.same("put off twice", x.value(12), 2);
        x.setMarket(1, Houses.WET, 1, 3);
        check.same("the set", x.value(8), 0);
        check.same("put off twice still", x.value(12), 2);
        check.markets("with the same patience", x, 2, 3, 0, 0, 0);
        x.setMarket(1, Houses.WET, 1, 5);
        check.markets("with more patience", x, 2, 2, 2, 3, 0);
        x.setMarket(0, Houses.WET, 1, 2);
        check.markets("with just that patience", x, 3, 0, 0);
        x.setMarket(0, Houses.WET, 1, 0);
        check.same("put off twice without patience", x.value(12), 2);
        check.markets("without patience", x, 3, 0, 0);
        x.setMarket(0, Houses.DRY, 1, 0);
        check.markets("at a dry hour", x, 1, 0, 0);
    }

    private void setMarketRanges() {
        check.sentence("Promise 7", "`wheel`: number of a wheel");
        check.range("wheel", 0, 4, INDEX, MarketBoundaries::five, (x, wheel) -> x.setMarket(wheel, 9, 9, 1));
        check.sentence("Promise 7", "Throws `IndexOutOfBoundsException` if there is no such wheel");
        check.range("wheel of one", 0, 0, INDEX, () -> Houses.wheels(9, 0), (x, wheel) -> x.setMarket(wheel, 9, 9, 1));
        SynodicWheels none = new SynodicWheels();
        check.index("setMarket() without wheels", none, () -> none.setMarket(0, 540, 120, 2));
        check.sentence("Promise 7", "`opening`: 0 to 1439");
        check.range("opening", 0, 1439, ARGUMENT, MarketBoundaries::five, (x, opening) -> x.setMarket(1, opening, 600, 2));
        check.sentence("Promise 7", "`length`: 1 to 600");
        check.range("length", 1, 600, ARGUMENT, MarketBoundaries::five, (x, length) -> x.setMarket(1, 1439, length, 2));
        check.sentence("Promise 7", "`patience`: 0 to 5");
        check.range("patience", 0, 5, ARGUMENT, MarketBoundaries::five, (x, patience) -> x.setMarket(1, 0, 1, patience));
        check.sentence("Promise 7", "Throws `IllegalArgumentException` if opening, length or patience is out of range");
        SynodicWheels x = five();
        check.argument("the opening alone", x, () -> x.setMarket(0, 1440, 1, 0));
        check.argument("the length alone", x, () -> x.setMarket(0, 1439, 0, 0));
        check.argument("the patience alone", x, () -> x.setMarket(0, 1439, 1, 6));
        check.argument("all of them", x, () -> x.setMarket(0, -1, 601, -1));
    }

    private void setDay() {
        check.sentence("Promise 8", "Puts a tooth into the set of the market, or takes it out.");
        check.sentence("Promise 8", "`market`: whether it is in the set then");
        SynodicWheels x = Houses.steadyMoon(Houses.DRY, 0);
        x.setDay(0, true);
        x.setDay(2, true);
        check.markets("put in", x, 1, 0, 1, 0);
        x.setDay(0, true);
        check.markets("put in again", x, 1, 0, 1, 0);
        x.setDay(0, false);
        check.markets("taken out", x, 0, 0, 1, 0);
        x.setDay(0, false);
        check.markets("taken out again", x, 0, 0, 1, 0);
        check.sentence("Promise 8", "Undoable.");
        check.undone("setDay() in", Houses::rich, y -> y.setDay(8, true));
        check.undone("setDay() out", Houses::rich, y -> y.setDay(4, false));
        check.undone("setDay() to the same", Houses::rich, y -> y.setDay(4, true));
    }

    private void setDayAnswer() {
        check.sentence("Promise 8", "Returns the number of teeth in the set then.");
        SynodicWheels x = Houses.steadyMoon(Houses.DRY, 0);
        for (int tooth = 0; tooth < 60; tooth++) {
            check.same("put in " + tooth, x.setDay(tooth, true), tooth + 1);
        }
        check.same("put in again", x.setDay(59, true), 60);
        for (int tooth = 0; tooth < 60; tooth++) {
            check.same("taken out " + tooth, x.setDay(tooth, false), 59 - tooth);
        }
        check.same("taken out of an empty set", x.setDay(59, false), 0);
        check.same("value(8)", x.value(8), 0);
    }

    private void setDayTooth() {
        check.sentence("Promise 8", "`tooth`: a tooth of the wheel of the market");
        for (int teeth = 2; teeth <= 60; teeth++) {
            int all = teeth;
            check.range("tooth of " + teeth, 0, teeth - 1, ARGUMENT, () -> Houses.wheels(all, 0), (x, t) -> x.setDay(t, true));
        }
        SynodicWheels x = Houses.wheels(60, 0, 3, 0);
        x.setMarket(1, 0, 1, 0);
        check.same("the last tooth", x.setDay(2, true), 1);
        check.argument("a tooth of another wheel", x, () -> x.setDay(3, true));
        check.sentence("Promise 8", "Throws `IllegalArgumentException` if there is no such tooth (or no wheel)");
        check.argument("a tooth to take out", x, () -> x.setDay(3, false));
        SynodicWheels none = new SynodicWheels();
        check.argument("tooth 0 without wheels", none, () -> none.setDay(0, true));
        check.argument("tooth -1 without wheels", none, () -> none.setDay(-1, false));
        x.parse();
        check.argument("tooth 0 behind a text without wheels", x, () -> x.setDay(0, true));
    }

    private void pass() {
        check.sentence("Promise 9", "Lets days pass.");
        SynodicWheels x = five();
        x.pass(400);
        check.same("the day", x.value(0), 400);
        int[] due = {1, 39, 4, 4, 27};
        for (int k = 0; k < 5; k++) {
            check.same("the position of " + k, x.wheel(k, 1), due[k]);
        }
        check.sentence("Promise 9", "Returns the number of markets that are held on them.");
        SynodicWheels y = Houses.steadyMoon(Houses.DRY, 0, 0, 4, 5, 59);
        check.same("the first day counts, the day behind the last one does not", y.pass(4), 1);
        check.same("both ends count", y.pass(2), 2);
        check.same("none", y.pass(53), 0);
        check.same("round tooth 0", y.pass(2), 2);
        check.same("in 400 days", y.pass(400), 26);
        check.same("without wheels", new SynodicWheels().pass(400), 0);
        check.same("all are lost", Houses.everyDay(0, Houses.WET, 1, 0).pass(400), 0);
        check.same("all are held", Houses.everyDay(0, Houses.DRY, 1, 0).pass(400), 400);
        check.sentence("Promise 9", "Undoable.");
        check.undone("pass(1)", Houses::rich, z -> z.pass(1));
        check.undone("pass(400)", Houses::rich, z -> z.pass(400));
    }

    private void passRange() {
        check.sentence("Promise 9", "`days`: 1 to 400");
        check.range("days", 1, 400, ARGUMENT, MarketBoundaries::five, (x, days) -> x.pass(days));
        check.sentence("Promise 9", "Throws `IllegalArgumentException` if days is out of range");
        check.range("days without wheels", 1, 400, ARGUMENT, SynodicWheels::new, (x, days) -> x.pass(days));
    }

    private static SynodicWheels onDay(int day) {
        SynodicWheels x = Houses.wheels(7, 0);
        for (int k = 0; k < day / 400; k++) {
            x.pass(400);
        }
        if (day % 400 > 0) {
            x.pass(day % 400);
        }
        return x;
    }

    private void passUpToTheLastDay() {
        check.sentence("Promise 9", "Throws `IllegalStateException` if the day would be later than 100000");
        int[][] inTime = {{LAST_DAY - 400, 400}, {LAST_DAY - 399, 399}, {LAST_DAY - 1, 1}};
        for (int[] d : inTime) {
            SynodicWheels x = onDay(d[0]);
            check.taken("pass(" + d[1] + ") on day " + d[0], () -> x.pass(d[1]));
            check.same("the last day", x.value(0), LAST_DAY);
            check.same("its position", x.wheel(0, 1), LAST_DAY % 7);
            check.state("a day more", x, () -> x.pass(1));
        }
        int[][] tooLate = {{LAST_DAY - 399, 400}, {LAST_DAY - 1, 2}, {LAST_DAY, 1}, {LAST_DAY, 400}};
        for (int[] d : tooLate) {
            SynodicWheels x = onDay(d[0]);
            check.state("pass(" + d[1] + ") on day " + d[0], x, () -> x.pass(d[1]));
            check.same("the day", x.value(0), d[0]);
        }
    }

    private void value() {
        check.sentence("Promise 12", "Returns a number.");
        check.sentence("Promise 12", "`what`: 0 the day, 1 the wheels, 2 the moon, 3 the lag");
        check.sentence("Promise 12", "Returns that number.");
        SynodicWheels x = Houses.steadyMoon(Houses.DRY, 3, 0, 7, 8, 59);
        x.addWheel(9, 0);
        x.pass(8);
        x.print();
        x.setMarket(1, Houses.WET, 600, 5);
        x.setDay(8, true);
        x.setDay(9, true);
        x.setMoon(2, 719);
        check.values("all of them", x, 8, 3, 2, 719, 1, Houses.WET, 600, 5, 2, 2, 0, 0, 0, 8);
        check.sentence("Promise 12", "Throws `IllegalArgumentException` if what is out of range");
        check.range("what", 0, 13, ARGUMENT, MarketBoundaries::five, (y, what) -> y.value(what));
        check.range("what without wheels", 0, 13, ARGUMENT, SynodicWheels::new, (y, what) -> y.value(what));
    }

    private void valueOfCounts() {
        SynodicWheels x = Houses.steadyMoon(Houses.WET, 2, 0, 10);
        x.pass(60);
        check.same("held", x.value(9), 0);
        check.same("put off, each time", x.value(10), 4);
        check.same("lost", x.value(11), 2);
        x.setMoon(0, 240);
        x.pass(60);
        check.same("held then", x.value(9), 2);
        check.same("put off then", x.value(10), 4);
        check.same("lost then", x.value(11), 2);
    }

    private void valueOfWhatWasPutOff() {
        SynodicWheels x = Houses.steadyMoon(Houses.WET, 5, 1);
        int[] due = {0, 0, 1, 2, 3, 4, 5, 0, 0};
        for (int day = 0; day < due.length; day++) {
            check.same("put off to day " + day, x.value(12), due[day]);
            x.pass(1);
        }
        SynodicWheels y = Houses.steadyMoon(Houses.WET, 5, 0);
        y.pass(3);
        y.setMoon(0, 240);
        check.same("put off on three days", y.value(12), 3);
        y.pass(1);
        check.same("held", y.value(12), 0);
    }

    private void highWater() {
        check.sentence("Promise 13", "Returns the first high water on a day from today on.");
        SynodicWheels x = Houses.wheels(60, 58);
        int[] due = {672, 696, 0, 24, 48};
        for (int after = 0; after < due.length; after++) {
            check.same("highWater(" + after + ")", x.highWater(after), due[after]);
        }
        x.pass(1);
        check.same("a day on", x.highWater(0), 696);
        check.sentence("Promise 13", "`after`: 0 for today, up to 1000 days later");
        check.same("highWater(1000)", x.highWater(1000), (59 + 1000) % 60 * 24 % 720);
        check.range("after", 0, 1000, ARGUMENT, MarketBoundaries::five, (y, after) -> y.highWater(after));
        check.same("1000 days behind the last day", onDay(LAST_DAY).highWater(1000), (LAST_DAY + 1000) % 7 * 1440 / 7 % 720);
        check.sentence("Promise 13", "Returns the minute, 0 to 719");
        SynodicWheels y = Houses.wheels(60, 0);
        for (int after = 0; after < 60; after++) {
            y.setMoon(0, 0);
            check.same("highWater(" + after + ")", y.highWater(after), 24 * after % 720);
            y.setMoon(0, 719);
            check.same("with a lag of 719", y.highWater(after), after % 30 == 0 ? 719 : 24 * after % 720 - 1);
        }
        check.sentence("Promise 13", "NONE without wheels.");
        check.same("highWater(0)", new SynodicWheels().highWater(0), NONE);
        check.same("highWater(1000)", new SynodicWheels().highWater(1000), NONE);
        check.sentence("Promise 13", "Throws `IllegalArgumentException` if after is out of range");
        check.range("after without wheels", 0, 1000, ARGUMENT, SynodicWheels::new, (z, after) -> z.highWater(after));
    }

    private void market() {
        check.sentence("Promise 14", "Tells what becomes of the market on a day from today on.");
        check.sentence("Promise 14", "Returns 0 none is due, 1 held, 2 put off, 3 lost.");
        // The ford is free with the moon at 1, 2, 3, 7, 8 and 9: for tooth 5 on the last day of patience, for 10 not.
        SynodicWheels x = Houses.wheels(12, 4);
        x.setMarket(0, 540, 120, 2);
        x.setDay(5, true);
        x.setDay(10, true);
        check.markets("from day 0 on", x, 0, 2, 2, 1, 0, 0, 2, 2, 3, 0, 0, 0, 0, 2);
        x.pass(2);
        check.markets("from day 2 on", x, 2, 1, 0, 0, 2, 2, 3, 0, 0, 0, 0, 2);
        check.same("the day stays", x.value(0), 2);
        check.same("the counts stay", x.value(10), 1);
        check.same("what was put off stays", x.value(12), 1);
    }

    private void marketOfFarDays() {
        check.sentence("Promise 14", "`after`: 0 for today, up to 1000 days later");
        check.range("after", 0, 1000, ARGUMENT, MarketBoundaries::five, (x, after) -> x.market(after));
        SynodicWheels x = Houses.steadyMoon(Houses.WET, 1, 40);
        check.same("market(999)", x.market(999), 0);
        check.same("market(1000)", x.market(1000), 2);
        SynodicWheels y = Houses.steadyMoon(Houses.WET, 1, 39);
        check.same("market(1000) of what was put off", y.market(1000), 3);
        SynodicWheels z = onDay(LAST_DAY);
        z.setMarket(0, Houses.DRY, 1, 0);
        z.setDay((LAST_DAY + 1000) % 7, true);
        check.isTrue("market(1000) on the last day", z.market(1000) != 0);
        check.sentence("Promise 14", "Throws `IllegalArgumentException` if after is out of range");
        check.range("after without wheels", 0, 1000, ARGUMENT, SynodicWheels::new, (n, after) -> n.market(after));
    }

    private void nextMarket() {
        check.sentence("Promise 15", "Finds the next day on which a market is held, from today on.");
        check.same("one that is held", Houses.steadyMoon(Houses.DRY, 0, 59).nextMarket(), 59);
        check.same("one that is lost", Houses.steadyMoon(Houses.WET, 0, 59).nextMarket(), NONE);
        SynodicWheels x = Houses.wheels(12, 4);
        x.setMarket(0, 540, 120, 2);
        x.setDay(5, true);
        check.same("one that is put off to its day", x.nextMarket(), 3);
        x.pass(2);
        check.same("one that was put off", x.nextMarket(), 1);
        check.sentence("Promise 15", "Returns the number of days until then, 0 for today");
        x.pass(1);
        check.same("today", x.nextMarket(), 0);
        x.pass(1);
        check.same("behind it", x.nextMarket(), 11);
    }

    /** Held only if the moon, of 59 teeth, and the wheel of the market, of 60 teeth, both stand at 0. */
    private static SynodicWheels heldAfter(int days) {
        SynodicWheels x = Houses.wheels(59, (59 * 60 - days) % 59, 60, (59 * 60 - days) % 60);
        x.setMoon(0, 379);
        x.setMarket(1, 500, 479, 0);
        x.setDay(0, true);
        return x;
    }

    private void nextMarketOfFarDays() {
        check.sentence("Promise 15", "NONE if it would be more than 2000 days.");
        check.same("0 days", heldAfter(0).nextMarket(), 0);
        check.same("1999 days", heldAfter(1999).nextMarket(), 1999);
        check.same("2000 days", heldAfter(2000).nextMarket(), 2000);
        check.same("2001 days", heldAfter(2001).nextMarket(), NONE);
        check.same("3539 days", heldAfter(3539).nextMarket(), NONE);
        check.same("never", Houses.steadyMoon(Houses.DRY, 0).nextMarket(), NONE);
        check.same("without wheels", new SynodicWheels().nextMarket(), NONE);
    }
}
