import java.util.ArrayDeque;
import java.util.ArrayList;
import java.util.Deque;
import java.util.List;

/**
 * The document told a second time, as slowly as its words: minutes are looked at one by one, the almanac is read from
 * its first day, a saved state is a whole copy. ModelTest compares the class with it.
 */
final class Model {
    static final class Wheel implements Cloneable {
        int teeth;
        int position;
        int mark;
        int driver = -1;
        int tooth = -1;
        int extra;
        int printed;

        Wheel copy() {
            try {
                return (Wheel) clone();
            } catch (CloneNotSupportedException e) {
                throw new AssertionError(e);
            }
        }
    }

    static final class State implements Cloneable {
        List<Wheel> wheels = new ArrayList<>();
        boolean[] set = new boolean[60];
        int day;
        int moon;
        int lag;
        int seller;
        int opening = 540;
        int length = 120;
        int patience = 2;
        int held;
        int putOff;
        int lost;
        int waited;
        int printDay;

        State copy() {
            try {
                State s = (State) clone();
                s.set = set.clone();
                s.wheels = new ArrayList<>();
                for (Wheel w : wheels) {
                    s.wheels.add(w.copy());
                }
                return s;
            } catch (CloneNotSupportedException e) {
                throw new AssertionError(e);
            }
        }

        void move() {
            for (Wheel w : wheels) {
                w.position++;
                if (w.driver >= 0 && wheels.get(w.driver).position == w.tooth) {
                    w.position += w.extra;
                }
                while (w.position >= w.teeth) {
                    w.position -= w.teeth;
                }
            }
        }

        int high() {
            if (wheels.isEmpty()) {
                return -1;
            }
            Wheel w = wheels.get(moon);
            return (w.position * 1440 / w.teeth + lag) % 720;
        }

        boolean wet(int minute) {
            int first = high();
            for (int water : new int[] {first, first + 720}) {
                if (minute >= water - 120 && minute <= water + 120) {
                    return true;
                }
            }
            return false;
        }

        int fate() {
            if (wheels.isEmpty() || !(set[wheels.get(seller).position] || waited > 0)) {
                return 0;
            }
            boolean free = true;
            for (int minute = opening; minute < opening + length && minute <= 1439; minute++) {
                free &= !wet(minute);
            }
            return free ? 1 : waited < patience ? 2 : 3;
        }

        int live() {
            int fate = fate();
            held += fate == 1 ? 1 : 0;
            putOff += fate == 2 ? 1 : 0;
            lost += fate == 3 ? 1 : 0;
            waited = fate == 2 ? waited + 1 : 0;
            move();
            day++;
            return fate;
        }

        State almanac() {
            State s = copy();
            s.day = printDay;
            s.waited = 0;
            for (Wheel w : s.wheels) {
                w.position = w.printed;
                w.driver = -1;
            }
            while (s.day < day) {
                s.live();
            }
            return s;
        }
    }

    private State now = new State();
    private final Deque<State> saved = new ArrayDeque<>();
    private String text = "";

    private void save() {
        saved.addLast(now.copy());
        if (saved.size() > 4) {
            saved.removeFirst();
        }
    }

    private static void argument(boolean good) {
        if (!good) {
            throw new IllegalArgumentException();
        }
    }

    private static void state(boolean good) {
        if (!good) {
            throw new IllegalStateException();
        }
    }

    private Wheel there(int wheel) {
        if (wheel < 0 || wheel >= now.wheels.size()) {
            throw new IndexOutOfBoundsException();
        }
        return now.wheels.get(wheel);
    }

    private static boolean in(int x, int low, int high) {
        return x >= low && x <= high;
    }

    int addWheel(int teeth, int position) {
        argument(in(teeth, 2, 60) && in(position, 0, teeth - 1));
        state(now.wheels.size() < 5);
        save();
        Wheel w = new Wheel();
        w.teeth = teeth;
        w.position = position;
        w.printed = position;
        for (int d = now.printDay; d < now.day; d++) {
            w.printed = w.printed == 0 ? teeth - 1 : w.printed - 1;
        }
        now.wheels.add(w);
        return now.wheels.size() - 1;
    }

    int setSkip(int wheel, int driver, int tooth, int extra) {
        there(wheel);
        argument(in(driver, 0, wheel - 1));
        argument(in(tooth, 0, there(driver).teeth - 1) && (extra == 1 || extra == -1));
        save();
        Wheel w = there(wheel);
        int had = w.extra != 0 ? 1 : 0;
        w.driver = driver;
        w.tooth = tooth;
        w.extra = extra;
        return had;
    }

    int clearSkip(int wheel) {
        there(wheel);
        save();
        Wheel w = there(wheel);
        int had = w.extra != 0 ? 1 : 0;
        w.driver = -1;
        w.tooth = -1;
        w.extra = 0;
        return had;
    }

    int setWheel(int wheel, int position, int mark) {
        int teeth = there(wheel).teeth;
        argument(in(position, 0, teeth - 1) && in(mark, 0, teeth - 1));
        save();
        int before = there(wheel).position;
        there(wheel).position = position;
        there(wheel).mark = mark;
        return before;
    }

    int setMoon(int wheel, int lag) {
        there(wheel);
        argument(in(lag, 0, 719));
        save();
        int before = now.moon;
        now.moon = wheel;
        now.lag = lag;
        return before;
    }

    int setMarket(int wheel, int opening, int length, int patience) {
        there(wheel);
        argument(in(opening, 0, 1439) && in(length, 1, 600) && in(patience, 0, 5));
        save();
        int before = now.seller;
        now.seller = wheel;
        now.opening = opening;
        now.length = length;
        now.patience = patience;
        now.set = new boolean[60];
        return before;
    }

    private int inSet() {
        int count = 0;
        for (boolean b : now.set) {
            count += b ? 1 : 0;
        }
        return count;
    }

    int setDay(int tooth, boolean market) {
        argument(!now.wheels.isEmpty());
        argument(in(tooth, 0, there(now.seller).teeth - 1));
        save();
        now.set[tooth] = market;
        return inSet();
    }

    int pass(int days) {
        argument(in(days, 1, 400));
        state(now.day + days <= 100000);
        save();
        int before = now.held;
        for (int d = 0; d < days; d++) {
            now.live();
        }
        return now.held - before;
    }

    int print() {
        save();
        int before = now.printDay;
        printToday();
        return before;
    }

    private void printToday() {
        now.printDay = now.day;
        for (Wheel w : now.wheels) {
            w.printed = w.position;
        }
    }

    int wheel(int wheel, int what) {
        Wheel w = there(wheel);
        argument(in(what, 0, 6));
        int almanac = (w.printed + now.day - now.printDay) % w.teeth;
        return new int[] {w.teeth, w.position, w.mark, w.driver, w.tooth, w.extra, almanac}[what];
    }

    int value(int what) {
        argument(in(what, 0, 13));
        return new int[] {now.day, now.wheels.size(), now.moon, now.lag, now.seller, now.opening, now.length,
            now.patience, inSet(), now.held, now.putOff, now.lost, now.waited, now.printDay}[what];
    }

    private State after(int days) {
        State s = now.copy();
        for (int d = 0; d < days; d++) {
            s.live();
        }
        return s;
    }

    int highWater(int after) {
        argument(in(after, 0, 1000));
        return after(after).high();
    }

    int market(int after) {
        argument(in(after, 0, 1000));
        return after(after).fate();
    }

    int nextMarket() {
        State s = now.copy();
        for (int d = 0; d <= 2000; d++) {
            if (s.live() == 1) {
                return d;
            }
        }
        return -1;
    }

    private List<Wheel> ofSet(int set) {
        argument(in(set, 1, (1 << now.wheels.size()) - 1));
        List<Wheel> some = new ArrayList<>();
        for (int k = 0; k < now.wheels.size(); k++) {
            if ((set & 1 << k) != 0) {
                some.add(now.wheels.get(k));
            }
        }
        return some;
    }

    int nextMeeting(int set) {
        ofSet(set);
        State s = now.copy();
        for (int d = 0; d <= 30000; d++) {
            boolean all = true;
            for (int k = 0; k < s.wheels.size(); k++) {
                all &= (set & 1 << k) == 0 || s.wheels.get(k).position == s.wheels.get(k).mark;
            }
            if (all) {
                return d;
            }
            s.move();
        }
        return -1;
    }

    /** Whether the answer is the one that is due: it fits each wheel and is the first, or two wheels rule it out. */
    boolean fitsRemainders(int set, long answer) {
        List<Wheel> some = ofSet(set);
        boolean never = false;
        for (Wheel v : some) {
            for (Wheel w : some) {
                int common = 1;
                for (int k = 1; k <= 60; k++) {
                    common = v.teeth % k == 0 && w.teeth % k == 0 ? k : common;
                }
                int apart = (v.mark - v.position) - (w.mark - w.position);
                never |= apart % common != 0;
            }
        }
        if (never) {
            return answer == -1;
        }
        boolean fits = answer >= 0 && answer < multiple(set);
        for (Wheel w : some) {
            fits &= (w.position + answer) % w.teeth == w.mark;
        }
        return fits;
    }

    long multiple(int set) {
        List<Wheel> some = ofSet(set);
        long all = 1;
        for (int prime = 2; prime <= 60; prime++) {
            int most = 0;
            for (Wheel w : some) {
                int times = 0;
                for (int rest = w.teeth; rest % prime == 0 && isPrime(prime); rest /= prime) {
                    times++;
                }
                most = Math.max(most, times);
            }
            for (int k = 0; k < most; k++) {
                all *= prime;
            }
        }
        return all;
    }

    private static boolean isPrime(int n) {
        for (int k = 2; k < n; k++) {
            if (n % k == 0) {
                return false;
            }
        }
        return true;
    }

    int comesBack() {
        State s = now.copy();
        for (int d = 1; d <= 30000 && !s.wheels.isEmpty(); d++) {
            s.move();
            boolean all = true;
            for (int k = 0; k < s.wheels.size(); k++) {
                all &= s.wheels.get(k).position == now.wheels.get(k).position;
            }
            if (all) {
                return d;
            }
        }
        return -1;
    }

    int errors(int days) {
        argument(in(days, 1, 1000));
        State real = now.copy();
        State told = now.almanac();
        int wrong = 0;
        for (int d = 0; d < days; d++) {
            boolean a = real.live() == 1;
            boolean b = told.live() == 1;
            wrong += a ^ b ? 1 : 0;
        }
        return wrong;
    }

    int bestLag(int days) {
        argument(in(days, 1, 200));
        int[] count = new int[12];
        for (int k = 0; k < 12; k++) {
            State s = now.copy();
            s.lag = 60 * k;
            for (int d = 0; d < days; d++) {
                count[k] += s.live() >= 2 ? 1 : 0;
            }
        }
        int best = 11;
        for (int k = 11; k >= 0; k--) {
            best = count[k] <= count[best] ? k : best;
        }
        return 60 * best;
    }

    double kept() {
        return now.held + now.lost == 0 ? 1.0 : (double) now.held / (double) (now.held + now.lost);
    }

    int append(int value) {
        argument(in(value, 0, 127));
        state(text.length() < 90);
        text += (char) value;
        return text.length();
    }

    int clearText() {
        int before = text.length();
        text = "";
        return before;
    }

    int parse() {
        List<Wheel> wheels = new ArrayList<>();
        int fault = ModelText.read(text, wheels);
        if (fault >= 0) {
            return -10 - fault;
        }
        save();
        now.wheels = wheels;
        now.moon = 0;
        now.seller = 0;
        now.set = new boolean[60];
        now.waited = 0;
        printToday();
        return wheels.size();
    }

    int undo() {
        state(!saved.isEmpty());
        now = saved.removeLast();
        return saved.size();
    }

    long digest() {
        List<Long> all = new ArrayList<>();
        all.add((long) text.length());
        for (int k = 0; k <= 13; k++) {
            all.add((long) value(k));
        }
        for (int w = 0; w < now.wheels.size(); w++) {
            for (int k = 0; k <= 6; k++) {
                all.add((long) wheel(w, k));
            }
        }
        for (int k = 0; k <= 9; k++) {
            all.add((long) highWater(k));
            all.add((long) market(k));
        }
        all.add((long) nextMarket());
        all.add((long) saved.size());
        long h = 3463;
        for (long v : all) {
            h = 31 * h + v;
        }
        return h;
    }
}
