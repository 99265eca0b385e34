/** Promises 6 to 9 and 12 to 15: moon, market, days that pass, numbers, tides and markets of days to come. */
public final class MarketTest {
    private static final Check check = new Check("MarketTest");

    public static void main(String[] args) {
        setsTheMoon();
        setsTheMarket();
        keepsWhatWasPutOff();
        setsTheTeethOfTheMarket();
        tellsHighWater();
        knowsTheEdgesOfTheWater();
        putsMarketsOff();
        forgetsTheOneThatWasPutOffLess();
        passesDays();
        endsTheDays();
        tellsNumbers();
        tellsMarketsAhead();
        findsTheNextMarket();
        check.end();
    }

    /** One wheel of 12 teeth, so that high water is at 120 times the position, and a market from 540 to 659:
     *  it can be held with the positions 1, 2, 3, 7, 8 and 9. */
    private static SynodicWheels twelve(int patience, int... teeth) {
        SynodicWheels x = new SynodicWheels();
        x.addWheel(12, 0);
        x.setMarket(0, 540, 120, patience);
        for (int t : teeth) {
            x.setDay(t, true);
        }
        return x;
    }

    /** One wheel of 2 teeth: high water is at the lag every day, and a market is due every day. */
    private static SynodicWheels still(int lag, int opening, int length) {
        SynodicWheels x = new SynodicWheels();
        x.addWheel(2, 0);
        x.setMoon(0, lag);
        x.setMarket(0, opening, length, 0);
        x.setDay(0, true);
        x.setDay(1, true);
        return x;
    }

    private static void setsTheMoon() {
        SynodicWheels x = new SynodicWheels();
        check.index("setMoon(0, 0) without wheels", x, () -> x.setMoon(0, 0));
        x.addWheel(4, 1);
        x.addWheel(7, 3);
        check.same("highWater(0) of the first moon", x.highWater(0), 360);
        check.same("setMoon(1, 719)", x.setMoon(1, 719), 0);
        check.same("value(2)", x.value(2), 1);
        check.same("value(3)", x.value(3), 719);
        check.same("setMoon(0, 0)", x.setMoon(0, 0), 1);
        check.same("setMoon(0, 1)", x.setMoon(0, 1), 0);
        check.index("setMoon(2, 0)", x, () -> x.setMoon(2, 0));
        check.index("setMoon(-1, 720)", x, () -> x.setMoon(-1, 720));
        check.argument("setMoon(0, 720)", x, () -> x.setMoon(0, 720));
        check.argument("setMoon(0, -1)", x, () -> x.setMoon(0, -1));
    }

    private static void setsTheMarket() {
        SynodicWheels x = new SynodicWheels();
        check.index("setMarket without wheels", x, () -> x.setMarket(0, 0, 1, 0));
        x.addWheel(4, 0);
        x.addWheel(7, 0);
        x.setDay(3, true);
        check.same("setMarket(1, 0, 1, 0)", x.setMarket(1, 0, 1, 0), 0);
        check.values("the lowest", x, 0, 2, 0, 0, 1, 0, 1, 0, 0, 0, 0, 0, 0, 0);
        x.setDay(6, true);
        check.same("setMarket(1, 1439, 600, 5)", x.setMarket(1, 1439, 600, 5), 1);
        check.values("the highest", x, 0, 2, 0, 0, 1, 1439, 600, 5, 0, 0, 0, 0, 0, 0);
        check.index("wheel 2", x, () -> x.setMarket(2, 0, 1, 0));
        check.index("wheel -1 and all wrong", x, () -> x.setMarket(-1, -1, 0, 6));
        check.argument("opening -1", x, () -> x.setMarket(0, -1, 1, 0));
        check.argument("opening 1440", x, () -> x.setMarket(0, 1440, 1, 0));
        check.argument("length 0", x, () -> x.setMarket(0, 0, 0, 0));
        check.argument("length 601", x, () -> x.setMarket(0, 0, 601, 0));
        check.argument("patience -1", x, () -> x.setMarket(0, 0, 1, -1));
        check.argument("patience 6", x, () -> x.setMarket(0, 0, 1, 6));
    }

    private static void keepsWhatWasPutOff() {
        SynodicWheels x = twelve(2, 4);
        x.pass(5);
        check.same("put off to today", x.value(12), 1);
        x.setMarket(0, 540, 120, 2);
        check.same("the set is empty", x.value(8), 0);
        check.same("it stays", x.value(12), 1);
        check.markets("with patience", x, 2, 3, 0, 0);
        x.setMarket(0, 540, 120, 0);
        check.markets("without patience", x, 3, 0, 0);
        x.setMarket(0, 721, 119, 2);
        check.markets("at a dry hour", x, 1, 0, 0);
    }

    private static void setsTheTeethOfTheMarket() {
        SynodicWheels x = new SynodicWheels();
        check.argument("setDay(0, true) without wheels", x, () -> x.setDay(0, true));
        x.addWheel(60, 0);
        x.addWheel(3, 0);
        int[] teeth = {0, 31, 32, 33, 59};
        for (int k = 0; k < teeth.length; k++) {
            check.same("setDay(" + teeth[k] + ", true)", x.setDay(teeth[k], true), k + 1);
        }
        check.same("a tooth that is in", x.setDay(59, true), 5);
        check.same("a tooth that is not in", x.setDay(1, false), 5);
        check.same("taken out", x.setDay(32, false), 4);
        check.same("value(8)", x.value(8), 4);
        check.argument("setDay(60, true)", x, () -> x.setDay(60, true));
        check.argument("setDay(-1, false)", x, () -> x.setDay(-1, false));
        x.setMarket(0, 300, 1, 5);
        x.setDay(59, true);
        x.setWheel(0, 58, 0);
        check.markets("on tooth 59 alone", x, 0, 1, 0, 0);
        x.setMarket(1, 300, 1, 5);
        check.argument("a tooth of another wheel", x, () -> x.setDay(3, true));
        check.same("setDay(2, true)", x.setDay(2, true), 1);
    }

    private static void tellsHighWater() {
        SynodicWheels x = new SynodicWheels();
        x.addWheel(7, 3);
        check.same("3 * 1440 / 7", x.highWater(0), 617);
        x.setMoon(0, 200);
        check.same("with a lag", x.highWater(0), 97);
        check.same("a day on", x.highWater(1), (822 + 200) % 720);
        check.same("a round on", x.highWater(7), 97);
        check.same("1000 days on", x.highWater(1000), (2 * 1440 / 7 + 200) % 720);
        check.argument("highWater(-1)", x, () -> x.highWater(-1));
        check.argument("highWater(1001)", x, () -> x.highWater(1001));
        x.addWheel(12, 0);
        x.setMoon(1, 0);
        x.setSkip(1, 0, 4, -1);
        check.same("the moon stands", x.highWater(1), 0);
        check.same("and goes on", x.highWater(2), 120);
        check.same("today is as it was", x.highWater(0), 0);
        x.setMoon(1, 719);
        x.setWheel(1, 6, 0);
        check.same("up to 719", x.highWater(0), 719);

        SynodicWheels none = new SynodicWheels();
        check.argument("highWater(1001) without wheels", none, () -> none.highWater(1001));
    }

    private static void knowsTheEdgesOfTheWater() {
        // With high water at 120 and 840 the ford is under water from 0 to 240 and from 720 to 960.
        int[][] hours = {{0, 1, 3}, {240, 1, 3}, {241, 1, 1}, {241, 479, 1}, {241, 480, 3}, {240, 10, 3},
            {719, 1, 1}, {720, 1, 3}, {960, 1, 3}, {961, 1, 1}, {961, 600, 1}, {1439, 600, 1}, {600, 600, 3}};
        for (int[] h : hours) {
            check.same("market from " + h[0] + " for " + h[1], still(120, h[0], h[1]).market(0), h[2]);
        }
        // The water of the day before and of the day behind does not count.
        check.same("after midnight", still(700, 0, 100).market(0), 1);
        check.same("before midnight", still(0, 1439, 1).market(0), 1);
        check.same("the second water at the end of the day", still(719, 1439, 1).market(0), 3);
        check.same("up to the first water", still(700, 0, 580).market(0), 1);
        check.same("into the first water", still(700, 0, 581).market(0), 3);
        check.same("a long market round a whole water", still(360, 100, 600).market(0), 3);
    }

    private static void putsMarketsOff() {
        check.markets("every day", twelve(2, 0, 1, 2, 3, 4, 5, 6, 7, 8, 9, 10, 11),
            2, 1, 1, 1, 2, 2, 3, 1, 1, 1, 2, 2, 3, 1);
        check.markets("patience 2", twelve(2, 4), 0, 0, 0, 0, 2, 2, 3, 0, 0);
        check.markets("patience 3", twelve(3, 4), 0, 0, 0, 0, 2, 2, 2, 1, 0);
        check.markets("patience 1", twelve(1, 4), 0, 0, 0, 0, 2, 3, 0, 0, 0);
        check.markets("patience 0", twelve(0, 4), 0, 0, 0, 0, 3, 0, 0, 0, 0);
        check.markets("patience 5", still5(), 2, 2, 2, 2, 2, 3, 0, 0);
    }

    private static SynodicWheels still5() {
        SynodicWheels x = new SynodicWheels();
        x.addWheel(2, 0);
        x.addWheel(60, 0);
        x.setMarket(1, 100, 1, 5);
        x.setDay(0, true);
        return x;
    }

    private static void forgetsTheOneThatWasPutOffLess() {
        SynodicWheels x = twelve(2, 4, 5);
        check.markets("two together", x, 0, 0, 0, 0, 2, 2, 3, 0, 0);
        x.pass(5);
        check.same("put off once", x.value(12), 1);
        x.pass(1);
        check.same("put off twice", x.value(12), 2);
        check.same("each time counts", x.value(10), 2);
        x.pass(1);
        check.same("lost", x.value(11), 1);
        check.same("nothing is left", x.value(12), 0);
        check.markets("two that are held together are one", twelve(3, 4, 7), 0, 0, 0, 0, 2, 2, 2, 1, 0);
    }

    private static void passesDays() {
        SynodicWheels x = twelve(2, 0, 1, 2, 3, 4, 5, 6, 7, 8, 9, 10, 11);
        check.same("pass(1)", x.pass(1), 0);
        check.values("a day on", x, 1, 1, 0, 0, 0, 540, 120, 2, 12, 0, 1, 0, 1, 0);
        check.same("pass(5)", x.pass(5), 3);
        check.values("six days on", x, 6, 1, 0, 0, 0, 540, 120, 2, 12, 3, 3, 0, 2, 0);
        check.same("pass(1) again", x.pass(1), 0);
        check.values("seven days on", x, 7, 1, 0, 0, 0, 540, 120, 2, 12, 3, 3, 1, 0, 0);
        check.same("position", x.wheel(0, 1), 7);
        check.same("pass(400)", x.pass(400), 201);
        check.same("day", x.value(0), 407);
        check.same("position then", x.wheel(0, 1), 407 % 12);
        check.argument("pass(0)", x, () -> x.pass(0));
        check.argument("pass(-1)", x, () -> x.pass(-1));
        check.argument("pass(401)", x, () -> x.pass(401));

        SynodicWheels none = new SynodicWheels();
        check.same("pass(7) without wheels", none.pass(7), 0);
        check.values("days without wheels", none, 7, 0, 0, 0, 0, 540, 120, 2, 0, 0, 0, 0, 0, 0);
    }

    private static void endsTheDays() {
        SynodicWheels x = new SynodicWheels();
        x.addWheel(7, 0);
        for (int k = 0; k < 249; k++) {
            x.pass(400);
        }
        x.pass(399);
        check.same("day", x.value(0), 99999);
        check.state("pass(2)", x, () -> x.pass(2));
        check.state("pass(400)", x, () -> x.pass(400));
        check.argument("pass(401) near the end", x, () -> x.pass(401));
        x.pass(1);
        check.same("the last day", x.value(0), 100000);
        check.state("pass(1)", x, () -> x.pass(1));
        check.argument("pass(0) on the last day", x, () -> x.pass(0));
        check.same("position on the last day", x.wheel(0, 1), 100000 % 7);
        check.same("looks behind the last day", x.highWater(1000), 101000 % 7 * 1440 / 7 % 720);
    }

    private static void tellsNumbers() {
        SynodicWheels x = twelve(2, 0, 4, 8, 10, 11);
        x.addWheel(5, 0);
        x.addWheel(60, 0);
        x.pass(3);
        x.print();
        x.pass(26);
        x.setMoon(2, 17);
        check.values("all of them", x, 29, 3, 2, 17, 0, 540, 120, 2, 5, 3, 10, 4, 1, 3);
        x.setMarket(1, 33, 44, 3);
        x.setDay(4, true);
        check.values("with another market", x, 29, 3, 2, 17, 1, 33, 44, 3, 1, 3, 10, 4, 1, 3);
        check.argument("value(-1)", x, () -> x.value(-1));
        check.argument("value(14)", x, () -> x.value(14));
    }

    /** The wheel of the market runs and stands by the moon. */
    private static SynodicWheels driven() {
        SynodicWheels x = twelve(2);
        x.addWheel(5, 3);
        x.setMarket(1, 540, 120, 2);
        x.setDay(2, true);
        x.setSkip(1, 0, 6, 1);
        return x;
    }

    private static int counts(SynodicWheels x) {
        return x.value(9) + 1000 * x.value(10) + 1000000 * x.value(11);
    }

    /** A hundred days at a time, since an object is used for 512 calls. */
    private static void tellsMarketsAhead() {
        for (int first = 0; first <= 1000; first += 100) {
            SynodicWheels x = driven();
            SynodicWheels y = driven();
            for (int k = 0; k < first / 100; k++) {
                y.pass(100);
            }
            int before = counts(y);
            for (int after = first; after < first + 100 && after <= 1000; after++) {
                y.pass(1);
                int behind = counts(y);
                int more = behind - before;
                before = behind;
                check.same("market(" + after + ")", x.market(after), more == 0 ? 0 : more == 1 ? 1 : more == 1000 ? 2 : 3);
            }
        }
        SynodicWheels x = driven();
        check.argument("market(-1)", x, () -> x.market(-1));
        check.argument("market(1001)", x, () -> x.market(1001));
    }

    private static void findsTheNextMarket() {
        SynodicWheels x = twelve(2, 2);
        check.same("in two days", x.nextMarket(), 2);
        x.pass(2);
        check.same("today", x.nextMarket(), 0);
        x.pass(1);
        check.same("in eleven days", x.nextMarket(), 11);
        check.same("behind days of putting off", twelve(3, 4).nextMarket(), 7);
        check.same("always lost", twelve(0, 4).nextMarket(), SynodicWheels.NONE);
        check.same("never due", twelve(2).nextMarket(), SynodicWheels.NONE);
        check.same("after 2000 days", rareMarket(2000).nextMarket(), 2000);
        check.same("after 1999 days", rareMarket(1999).nextMarket(), 1999);
        check.same("after 2001 days", rareMarket(2001).nextMarket(), SynodicWheels.NONE);
    }

    /** Held only if the moon, of 59 teeth, and the wheel of the market, of 60 teeth, both stand at 0. */
    private static SynodicWheels rareMarket(int days) {
        SynodicWheels x = new SynodicWheels();
        x.addWheel(59, 59 - 1 - (days - 1) % 59);
        x.addWheel(60, 60 - 1 - (days - 1) % 60);
        x.setMoon(0, 379);
        x.setMarket(1, 500, 479, 0);
        x.setDay(0, true);
        return x;
    }
}
