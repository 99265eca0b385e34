/** Houses that the tests of the boundaries begin with. */
final class Houses {
    /** Hours that are wet on each day in a house of steadyMoon(), and hours that are dry. */
    static final int WET = 700;
    static final int DRY = 300;

    private Houses() {
    }

    /** Wheels of these teeth and positions. */
    static SynodicWheels wheels(int... teethAndPositions) {
        SynodicWheels x = new SynodicWheels();
        for (int k = 0; k + 1 < teethAndPositions.length; k += 2) {
            x.addWheel(teethAndPositions[k], teethAndPositions[k + 1]);
        }
        return x;
    }

    /** High water is at the lag each day, since half a day is a whole round of the tide; a market is due each day. */
    static SynodicWheels everyDay(int lag, int opening, int length, int patience) {
        SynodicWheels x = wheels(2, 0);
        x.setMoon(0, lag);
        x.setMarket(0, opening, length, patience);
        x.setDay(0, true);
        x.setDay(1, true);
        return x;
    }

    /** High water is at 0 each day; a market of one minute is due when the wheel 1, of 60 teeth, is at these teeth. */
    static SynodicWheels steadyMoon(int opening, int patience, int... teeth) {
        SynodicWheels x = wheels(2, 0, 60, 0);
        x.setMarket(1, opening, 1, patience);
        for (int tooth : teeth) {
            x.setDay(tooth, true);
        }
        return x;
    }

    /** Five wheels, a skip, a text, and each other number different from that of a new house. */
    static SynodicWheels rich() {
        SynodicWheels x = wheels(12, 4, 9, 2, 29, 20, 60, 59, 2, 1);
        x.setSkip(1, 0, 3, 1);
        x.setWheel(2, 21, 5);
        x.setMoon(2, 11);
        x.setMarket(1, 500, 100, 3);
        x.setDay(2, true);
        x.setDay(4, true);
        x.pass(31);
        x.print();
        x.pass(5);
        write(x, "5,1;6,2@0,1-");
        return x;
    }

    /** Four saved states, the numbers in them 0, 1, 2 and 3 days; today is day 4. */
    static SynodicWheels fourDays() {
        SynodicWheels x = new SynodicWheels();
        for (int k = 0; k < 4; k++) {
            x.pass(1);
        }
        return x;
    }

    static void write(SynodicWheels x, String text) {
        for (int k = 0; k < text.length(); k++) {
            x.append(text.charAt(k));
        }
    }

    /** What parse() answers in a new house with this text. */
    static int parsed(String text) {
        SynodicWheels x = new SynodicWheels();
        write(x, text);
        return x.parse();
    }

    /** All that can be asked about a house, but for the text and the saved states. */
    static String told(SynodicWheels x) {
        StringBuilder all = new StringBuilder();
        for (int what = 0; what <= 13; what++) {
            all.append(x.value(what)).append(' ');
        }
        int count = x.value(1);
        for (int wheel = 0; wheel < count; wheel++) {
            for (int what = 0; what <= 6; what++) {
                all.append(x.wheel(wheel, what)).append(' ');
            }
        }
        for (int after = 0; after < 60; after++) {
            all.append(x.market(after)).append(x.highWater(after)).append(' ');
        }
        all.append(x.nextMarket()).append(' ').append(x.comesBack()).append(' ');
        all.append(x.errors(100)).append(' ').append(x.errors(1)).append(' ').append(x.bestLag(50));
        return all.append(' ').append(x.kept()).toString();
    }
}
