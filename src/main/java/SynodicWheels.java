/**
 * Wheels of days, as ../shared/DOC.md promises them. All rows are made in the constructor and used again, since all
 * calls of a run share one small room.
 */
public final class SynodicWheels {
    public static final int NONE = -1;

    private static final int MOST_WHEELS = 5;
    private static final int FEWEST_TEETH = 2;
    private static final int MOST_TEETH = 60;
    private static final int MOST_SAVED = 4;
    private static final int MOST_TEXT = 90;

    private static final int MINUTES_OF_DAY = 1440;
    private static final int LAST_MINUTE = 1439;
    private static final int HALF_DAY = 720;
    private static final int WATER_STANDS = 120;
    private static final int LONGEST_MARKET = 600;
    private static final int MOST_PATIENCE = 5;

    private static final int LAST_DAY = 100000;
    private static final int MOST_PASSED = 400;
    private static final int FARTHEST_LOOK = 1000;
    private static final int FARTHEST_MARKET = 2000;
    private static final int FARTHEST_MEETING = 30000;
    private static final int MOST_ERROR_DAYS = 1000;
    private static final int MOST_LAG_DAYS = 200;
    private static final int LAG_STEP = 60;

    private static final int NOT_DUE = 0;
    private static final int HELD = 1;
    private static final int PUT_OFF = 2;
    private static final int LOST = 3;

    private static final int LAST_OF_WHEEL = 6;
    private static final int LAST_OF_VALUES = 13;

    private final House now;
    private final House[] saved;
    private int savedCount;
    private final Walk walk;
    private final Walk almanacWalk;
    private final Reader reader;
    private final byte[] text;
    private int textLength;

    public SynodicWheels() {
        now = new House();
        saved = new House[MOST_SAVED];
        for (int k = 0; k < MOST_SAVED; k++) {
            saved[k] = new House();
        }
        walk = new Walk(now);
        almanacWalk = new Walk(now);
        reader = new Reader();
        text = new byte[MOST_TEXT];
    }

    // ---- wheels

    public int addWheel(int teeth, int position) throws IllegalArgumentException, IllegalStateException {
        if (teeth < FEWEST_TEETH || teeth > MOST_TEETH || position < 0 || position >= teeth) {
            throw new IllegalArgumentException("teeth or position out of range");
        }
        if (now.count >= MOST_WHEELS) {
            throw new IllegalStateException("no place for another wheel");
        }
        save();
        Wheel wheel = now.wheels[now.count];
        wheel.make(teeth, position);
        // The almanac looks back from the day of coming to the day of printing.
        wheel.printed = modulo(position - (now.day - now.printDay), teeth);
        now.count++;
        return now.count - 1;
    }

    public int setSkip(int wheel, int driver, int tooth, int extra)
            throws IndexOutOfBoundsException, IllegalArgumentException {
        if (!now.has(wheel)) {
            throw new IndexOutOfBoundsException("no such wheel");
        }
        if (driver < 0 || driver >= wheel || !now.hasTooth(driver, tooth) || (extra != -1 && extra != 1)) {
            throw new IllegalArgumentException("driver, tooth or extra out of range");
        }
        save();
        Wheel skipped = now.wheels[wheel];
        int before = skipped.hasSkip() ? 1 : 0;
        skipped.skipAt(driver, tooth, extra);
        return before;
    }

    public int clearSkip(int wheel) throws IndexOutOfBoundsException {
        if (!now.has(wheel)) {
            throw new IndexOutOfBoundsException("no such wheel");
        }
        save();
        Wheel skipped = now.wheels[wheel];
        int before = skipped.hasSkip() ? 1 : 0;
        skipped.skipNever();
        return before;
    }

    public int setWheel(int wheel, int position, int mark)
            throws IndexOutOfBoundsException, IllegalArgumentException {
        if (!now.has(wheel)) {
            throw new IndexOutOfBoundsException("no such wheel");
        }
        if (!now.hasTooth(wheel, position) || !now.hasTooth(wheel, mark)) {
            throw new IllegalArgumentException("position or mark out of range");
        }
        save();
        Wheel turned = now.wheels[wheel];
        int before = turned.position;
        turned.position = position;
        turned.mark = mark;
        return before;
    }

    public int setMoon(int wheel, int lag) throws IndexOutOfBoundsException, IllegalArgumentException {
        if (!now.has(wheel)) {
            throw new IndexOutOfBoundsException("no such wheel");
        }
        if (lag < 0 || lag >= HALF_DAY) {
            throw new IllegalArgumentException("lag out of range");
        }
        save();
        int before = now.moon;
        now.moon = wheel;
        now.lag = lag;
        return before;
    }

    public int setMarket(int wheel, int opening, int length, int patience)
            throws IndexOutOfBoundsException, IllegalArgumentException {
        if (!now.has(wheel)) {
            throw new IndexOutOfBoundsException("no such wheel");
        }
        if (opening < 0 || opening > LAST_MINUTE || length < 1 || length > LONGEST_MARKET
                || patience < 0 || patience > MOST_PATIENCE) {
            throw new IllegalArgumentException("opening, length or patience out of range");
        }
        save();
        int before = now.marketWheel;
        now.marketWheel = wheel;
        now.opening = opening;
        now.length = length;
        now.patience = patience;
        now.marketTeeth = 0L;
        return before;
    }

    public int setDay(int tooth, boolean market) throws IllegalArgumentException {
        if (!now.hasTooth(now.marketWheel, tooth)) {
            throw new IllegalArgumentException("no such tooth");
        }
        save();
        long bit = 1L << tooth;
        now.marketTeeth = market ? now.marketTeeth | bit : now.marketTeeth & ~bit;
        return Long.bitCount(now.marketTeeth);
    }

    public int pass(int days) throws IllegalArgumentException, IllegalStateException {
        if (days < 1 || days > MOST_PASSED) {
            throw new IllegalArgumentException("days out of range");
        }
        if (days > LAST_DAY - now.day) {
            throw new IllegalStateException("the days end before");
        }
        save();
        int heldBefore = now.held;
        walk.startToday();
        for (int d = 0; d < days; d++) {
            now.countMarket(walk.liveDay());
        }
        walk.arrive();
        now.day += days;
        return now.held - heldBefore;
    }

    public int print() {
        save();
        int before = now.printDay;
        now.printAlmanac();
        return before;
    }

    public int wheel(int wheel, int what) throws IndexOutOfBoundsException, IllegalArgumentException {
        if (!now.has(wheel)) {
            throw new IndexOutOfBoundsException("no such wheel");
        }
        if (what < 0 || what > LAST_OF_WHEEL) {
            throw new IllegalArgumentException("what out of range");
        }
        return now.tellWheel(now.wheels[wheel], what);
    }

    public int value(int what) throws IllegalArgumentException {
        if (what < 0 || what > LAST_OF_VALUES) {
            throw new IllegalArgumentException("what out of range");
        }
        return now.tellNumber(what);
    }

    // ---- days

    public int highWater(int after) throws IllegalArgumentException {
        if (after < 0 || after > FARTHEST_LOOK) {
            throw new IllegalArgumentException("after out of range");
        }
        return highWaterOn(after);
    }

    public int market(int after) throws IllegalArgumentException {
        if (after < 0 || after > FARTHEST_LOOK) {
            throw new IllegalArgumentException("after out of range");
        }
        return marketOn(after);
    }

    public int nextMarket() {
        walk.startToday();
        for (int d = 0; d <= FARTHEST_MARKET; d++) {
            if (walk.liveDay() == HELD) {
                return d;
            }
        }
        return NONE;
    }

    public int nextMeeting(int set) throws IllegalArgumentException {
        if (!isSet(set)) {
            throw new IllegalArgumentException("set out of range");
        }
        walk.startToday();
        for (int d = 0; d <= FARTHEST_MEETING; d++) {
            if (walk.meets(set)) {
                return d;
            }
            walk.moveWheels();
        }
        return NONE;
    }

    public long byRemainders(int set) throws IllegalArgumentException {
        if (!isSet(set)) {
            throw new IllegalArgumentException("set out of range");
        }
        long day = 0;
        long round = 1;
        for (int k = 0; k < now.count; k++) {
            if (isIn(set, k)) {
                Wheel wheel = now.wheels[k];
                day = firstWithRemainder(day, round, wheel.teeth, modulo(wheel.mark - wheel.position, wheel.teeth));
                if (day < 0) {
                    return NONE;
                }
                round = commonMultiple(round, wheel.teeth);
            }
        }
        return day;
    }

    public long multiple(int set) throws IllegalArgumentException {
        if (!isSet(set)) {
            throw new IllegalArgumentException("set out of range");
        }
        long round = 1;
        for (int k = 0; k < now.count; k++) {
            if (isIn(set, k)) {
                round = commonMultiple(round, now.wheels[k].teeth);
            }
        }
        return round;
    }

    public int comesBack() {
        if (now.count == 0) {
            return NONE;
        }
        walk.startToday();
        for (int d = 1; d <= FARTHEST_MEETING; d++) {
            walk.moveWheels();
            if (walk.isAsToday()) {
                return d;
            }
        }
        return NONE;
    }

    public int errors(int days) throws IllegalArgumentException {
        if (days < 1 || days > MOST_ERROR_DAYS) {
            throw new IllegalArgumentException("days out of range");
        }
        walk.startToday();
        almanacWalk.readAlmanacUntilToday();
        int wrong = 0;
        for (int d = 0; d < days; d++) {
            boolean held = walk.liveDay() == HELD;
            boolean told = almanacWalk.liveDay() == HELD;
            if (held != told) {
                wrong++;
            }
        }
        return wrong;
    }

    public int bestLag(int days) throws IllegalArgumentException {
        if (days < 1 || days > MOST_LAG_DAYS) {
            throw new IllegalArgumentException("days out of range");
        }
        int best = 0;
        int fewest = MOST_LAG_DAYS + 1;
        for (int lag = 0; lag < HALF_DAY; lag += LAG_STEP) {
            int hindered = daysHindered(lag, days);
            if (hindered < fewest) {
                fewest = hindered;
                best = lag;
            }
        }
        return best;
    }

    public double kept() {
        int ended = now.held + now.lost;
        return ended > 0 ? (double) now.held / (double) ended : 1.0;
    }

    // ---- text

    public int append(int value) throws IllegalArgumentException, IllegalStateException {
        if (value < 0 || value > 127) {
            throw new IllegalArgumentException("no such byte");
        }
        if (textLength >= MOST_TEXT) {
            throw new IllegalStateException("the text is full");
        }
        text[textLength] = (byte) value;
        textLength++;
        return textLength;
    }

    public int clearText() {
        int before = textLength;
        textLength = 0;
        return before;
    }

    public int parse() {
        int error = reader.readWheels(text, textLength);
        if (error != NONE) {
            return -10 - error;
        }
        save();
        now.takeWheels(reader.wheels, reader.count);
        return now.count;
    }

    // ---- state

    public int undo() throws IllegalStateException {
        if (savedCount < 1) {
            throw new IllegalStateException("nothing is saved");
        }
        savedCount--;
        now.copyFrom(saved[savedCount]);
        return savedCount;
    }

    public long digest() {
        long h = mixed(3463L, textLength);
        for (int what = 0; what <= LAST_OF_VALUES; what++) {
            h = mixed(h, now.tellNumber(what));
        }
        for (int k = 0; k < now.count; k++) {
            for (int what = 0; what <= LAST_OF_WHEEL; what++) {
                h = mixed(h, now.tellWheel(now.wheels[k], what));
            }
        }
        for (int after = 0; after <= 9; after++) {
            h = mixed(h, highWaterOn(after));
            h = mixed(h, marketOn(after));
        }
        h = mixed(h, nextMarket());
        return mixed(h, savedCount);
    }

    private static long mixed(long h, long v) {
        return 31L * h + v;
    }

    private void save() {
        if (savedCount >= MOST_SAVED) {
            dropOldest();
        }
        saved[savedCount].copyFrom(now);
        savedCount++;
    }

    private void dropOldest() {
        // The dropped row goes behind the others, so that no call has to make a new one.
        House oldest = saved[0];
        for (int k = 1; k < MOST_SAVED; k++) {
            saved[k - 1] = saved[k];
        }
        saved[MOST_SAVED - 1] = oldest;
        savedCount = MOST_SAVED - 1;
    }

    private int highWaterOn(int after) {
        walk.startToday();
        for (int d = 0; d < after; d++) {
            walk.moveWheels();
        }
        return walk.firstHighWater();
    }

    private int marketOn(int after) {
        walk.startToday();
        for (int d = 0; d < after; d++) {
            walk.liveDay();
        }
        return walk.fateOfMarket();
    }

    private int daysHindered(int lag, int days) {
        walk.startToday();
        walk.lag = lag;
        int hindered = 0;
        for (int d = 0; d < days; d++) {
            int fate = walk.liveDay();
            if (fate == PUT_OFF || fate == LOST) {
                hindered++;
            }
        }
        return hindered;
    }

    private boolean isSet(int set) {
        return set > 0 && set < 1 << now.count;
    }

    private static boolean isIn(int set, int wheel) {
        return (set >> wheel & 1) != 0;
    }

    private static int modulo(int a, int b) {
        if (b <= 0) {
            return 0;
        }
        int rest = a % b;
        return rest < 0 ? rest + b : rest;
    }

    /** Goes on from a day in whole rounds, so that the remainders of the wheels before stay; -1 if no day fits. */
    private static long firstWithRemainder(long from, long round, int teeth, int remainder) {
        long day = from;
        for (int k = 0; k < teeth; k++) {
            if (day % teeth == remainder) {
                return day;
            }
            day += round;
        }
        return NONE;
    }

    private static long commonMultiple(long round, int teeth) {
        long common = round;
        for (int k = 1; k < teeth && common % teeth != 0; k++) {
            common += round;
        }
        return common;
    }

    private static Wheel[] newWheels() {
        Wheel[] wheels = new Wheel[MOST_WHEELS];
        for (int k = 0; k < MOST_WHEELS; k++) {
            wheels[k] = new Wheel();
        }
        return wheels;
    }

    private static final class Wheel {
        private int teeth = FEWEST_TEETH;
        private int position;
        private int mark;
        private int driver = NONE;
        private int skipTooth = NONE;
        private int extra;
        private int printed;

        private void make(int newTeeth, int newPosition) {
            teeth = newTeeth;
            position = newPosition;
            mark = 0;
            skipNever();
        }

        private void skipNever() {
            skipAt(NONE, NONE, 0);
        }

        private void skipAt(int newDriver, int newTooth, int newExtra) {
            driver = newDriver;
            skipTooth = newTooth;
            extra = newExtra;
        }

        private boolean hasSkip() {
            return driver != NONE;
        }

        private void copyFrom(Wheel other) {
            teeth = other.teeth;
            position = other.position;
            mark = other.mark;
            driver = other.driver;
            skipTooth = other.skipTooth;
            extra = other.extra;
            printed = other.printed;
        }
    }

    /** All that undo brings back. */
    private static final class House {
        private final Wheel[] wheels;
        private int count;
        private int day;
        private int moon;
        private int lag;
        private int marketWheel;
        private int opening = 540;
        private int length = 120;
        private int patience = 2;
        private long marketTeeth;
        private int held;
        private int putOff;
        private int lost;
        private int waited;
        private int printDay;

        private House() {
            wheels = newWheels();
        }

        private boolean has(int wheel) {
            return wheel >= 0 && wheel < count;
        }

        private boolean hasTooth(int wheel, int tooth) {
            return has(wheel) && tooth >= 0 && tooth < wheels[wheel].teeth;
        }

        private void countMarket(int fate) {
            if (fate == HELD) {
                held++;
            } else if (fate == PUT_OFF) {
                putOff++;
            } else if (fate == LOST) {
                lost++;
            }
        }

        private void printAlmanac() {
            for (int k = 0; k < count; k++) {
                wheels[k].printed = wheels[k].position;
            }
            printDay = day;
        }

        private int almanacPosition(Wheel wheel, int onDay) {
            return modulo(wheel.printed + (onDay - printDay), wheel.teeth);
        }

        private void takeWheels(Wheel[] others, int othersCount) {
            count = Math.min(othersCount, Math.min(others.length, wheels.length));
            for (int k = 0; k < count; k++) {
                wheels[k].copyFrom(others[k]);
            }
            moon = 0;
            marketWheel = 0;
            marketTeeth = 0L;
            waited = 0;
            printAlmanac();
        }

        private int tellWheel(Wheel wheel, int what) {
            switch (what) {
                case 0: return wheel.teeth;
                case 1: return wheel.position;
                case 2: return wheel.mark;
                case 3: return wheel.driver;
                case 4: return wheel.skipTooth;
                case 5: return wheel.extra;
                default: return almanacPosition(wheel, day);
            }
        }

        private int tellNumber(int what) {
            switch (what) {
                case 0: return day;
                case 1: return count;
                case 2: return moon;
                case 3: return lag;
                case 4: return marketWheel;
                case 5: return opening;
                case 6: return length;
                case 7: return patience;
                case 8: return Long.bitCount(marketTeeth);
                case 9: return held;
                case 10: return putOff;
                case 11: return lost;
                case 12: return waited;
                default: return printDay;
            }
        }

        private void copyFrom(House other) {
            for (int k = 0; k < MOST_WHEELS; k++) {
                wheels[k].copyFrom(other.wheels[k]);
            }
            count = other.count;
            day = other.day;
            moon = other.moon;
            lag = other.lag;
            marketWheel = other.marketWheel;
            opening = other.opening;
            length = other.length;
            patience = other.patience;
            marketTeeth = other.marketTeeth;
            held = other.held;
            putOff = other.putOff;
            lost = other.lost;
            waited = other.waited;
            printDay = other.printDay;
        }
    }

    /** Goes from day to day over the wheels of a house without touching it. */
    private static final class Walk {
        private final House house;
        private final int[] positions;
        private int waited;
        private int lag;
        private boolean skipping;

        private Walk(House walked) {
            house = walked;
            positions = new int[MOST_WHEELS];
        }

        private void startToday() {
            for (int k = 0; k < MOST_WHEELS; k++) {
                positions[k] = house.wheels[k].position;
            }
            waited = house.waited;
            lag = house.lag;
            skipping = true;
        }

        /**
         * Starts at most a whole round of the moon before today: either the ford is free on some day of that round,
         * and nothing is put off behind it, or it is free on no day at all and the almanac tells of no market.
         * So what was put off before does not matter.
         */
        private void readAlmanacUntilToday() {
            int first = Math.max(house.printDay, house.day - MOST_TEETH);
            for (int k = 0; k < MOST_WHEELS; k++) {
                positions[k] = house.almanacPosition(house.wheels[k], first);
            }
            waited = 0;
            lag = house.lag;
            skipping = false;
            for (int d = first; d < house.day; d++) {
                liveDay();
            }
        }

        private void arrive() {
            for (int k = 0; k < MOST_WHEELS; k++) {
                house.wheels[k].position = positions[k];
            }
            house.waited = waited;
        }

        /** Answers what becomes of the market of the day, and goes on to the next day. */
        private int liveDay() {
            int fate = fateOfMarket();
            waited = fate == PUT_OFF ? waited + 1 : 0;
            moveWheels();
            return fate;
        }

        private void moveWheels() {
            for (int k = 0; k < house.count; k++) {
                Wheel wheel = house.wheels[k];
                int step = skipping && isSkipMet(wheel, k) ? 1 + wheel.extra : 1;
                positions[k] = modulo(positions[k] + step, wheel.teeth);
            }
        }

        /** The driver has a lower number, so it has moved already when its wheel moves. */
        private boolean isSkipMet(Wheel wheel, int number) {
            int driver = wheel.driver;
            return driver >= 0 && driver < number && positions[driver] == wheel.skipTooth;
        }

        private boolean meets(int set) {
            for (int k = 0; k < house.count; k++) {
                if (isIn(set, k) && positions[k] != house.wheels[k].mark) {
                    return false;
                }
            }
            return true;
        }

        private boolean isAsToday() {
            for (int k = 0; k < house.count; k++) {
                if (positions[k] != house.wheels[k].position) {
                    return false;
                }
            }
            return true;
        }

        private int firstHighWater() {
            if (!house.has(house.moon)) {
                return NONE;
            }
            int teeth = house.wheels[house.moon].teeth;
            int minute = teeth > 0 ? positions[house.moon] * MINUTES_OF_DAY / teeth : 0;
            return modulo(minute + lag, HALF_DAY);
        }

        private int fateOfMarket() {
            if (!isMarketDue()) {
                return NOT_DUE;
            }
            if (isFordFree()) {
                return HELD;
            }
            return waited < house.patience ? PUT_OFF : LOST;
        }

        private boolean isMarketDue() {
            if (!house.has(house.marketWheel)) {
                return false;
            }
            return waited > 0 || (house.marketTeeth >>> positions[house.marketWheel] & 1L) != 0L;
        }

        private boolean isFordFree() {
            int first = house.opening;
            int last = Math.min(first + house.length - 1, LAST_MINUTE);
            int water = firstHighWater();
            return isDryAround(water, first, last) && isDryAround(water + HALF_DAY, first, last);
        }

        private static boolean isDryAround(int water, int first, int last) {
            return last < water - WATER_STANDS || first > water + WATER_STANDS;
        }
    }

    /** Reads wheels from a text into rows of its own, so that a faulty text changes nothing. */
    private static final class Reader {
        private final Wheel[] wheels;
        private int count;
        private byte[] text;
        private int length;
        private int at;
        private int error;

        private Reader() {
            wheels = newWheels();
            text = new byte[0];
        }

        /** Answers the syntax error position, or NONE. */
        private int readWheels(byte[] bytes, int bytesLength) {
            text = bytes;
            length = Math.min(bytesLength, bytes.length);
            at = 0;
            error = NONE;
            count = 0;
            for (int k = 0; k < MOST_WHEELS && error == NONE && at < length; k++) {
                readWheel(wheels[k], k);
                count = k + 1;
            }
            if (at < length) {
                fail(at);
            }
            return error;
        }

        private void readWheel(Wheel wheel, int number) {
            int teeth = readNumber(FEWEST_TEETH, MOST_TEETH);
            readSign(',');
            int position = readNumber(0, teeth - 1);
            wheel.make(teeth, position);
            if (isNext('@')) {
                readSign('@');
                readSkip(wheel, number);
            }
            readSign(';');
        }

        private void readSkip(Wheel wheel, int number) {
            int driver = readDriver(number);
            readSign(',');
            int tooth = readNumber(0, wheels[driver].teeth - 1);
            int extra = isNext('+') ? 1 : -1;
            readSign(extra > 0 ? '+' : '-');
            wheel.skipAt(driver, tooth, extra);
        }

        /** Answers a driver that is there even if the text tells none. */
        private int readDriver(int number) {
            int driver = isDigitNext() ? digitNext() : number;
            if (driver >= number) {
                fail(at);
                return 0;
            }
            at++;
            return driver;
        }

        private int readNumber(int lowest, int highest) {
            int start = at;
            int number = 0;
            for (int k = 0; k < 2 && isDigitNext(); k++) {
                number = 10 * number + digitNext();
                at++;
            }
            if (at == start || isDigitNext()) {
                fail(at);
            } else if (number < lowest || number > highest) {
                fail(start);
            }
            return number;
        }

        private void readSign(char sign) {
            if (isNext(sign)) {
                at++;
            } else {
                fail(at);
            }
        }

        private boolean isNext(char sign) {
            return at < length && text[at] == sign;
        }

        private boolean isDigitNext() {
            return at < length && text[at] >= '0' && text[at] <= '9';
        }

        private int digitNext() {
            return at < length ? text[at] - '0' : 0;
        }

        /** Only the first fault counts: what is read behind it is not looked at. */
        private void fail(int position) {
            if (error == NONE) {
                error = position;
            }
        }
    }
}
