import java.util.function.LongSupplier;

/** Long runs of calls, each compared with the answer of the slow Model. The runs are the same every time. */
public final class ModelTest {
    private static final int RUNS = 200;
    private static final int CALLS = 512;
    private static final int TEXTS = 20000;

    private final Check check;
    private final int run;
    private long seed;
    private final SynodicWheels x = new SynodicWheels();
    private final Model m = new Model();
    private final boolean longDays;

    private ModelTest(Check check, int run) {
        this.check = check;
        this.run = run;
        seed = 7919L * run + 17;
        longDays = run % 40 == 0;
    }

    public static void main(String[] args) {
        Check check = new Check("ModelTest");
        for (int run = 0; run < RUNS; run++) {
            new ModelTest(check, run).go();
        }
        texts(check);
        check.end();
    }

    private int below(int bound) {
        seed = seed * 6364136223846793005L + 1442695040888963407L;
        return (int) ((seed >>> 33) % bound);
    }

    private int between(int low, int high) {
        return low + below(high - low + 1);
    }

    /** Mostly from low to high, often one of the two, and now and then out of the range. */
    private int about(int low, int high) {
        switch (below(20)) {
            case 0: return low - 1;
            case 1: return high + 1;
            case 2:
            case 3: return low;
            case 4:
            case 5: return high;
            default: return between(low, Math.max(low, high));
        }
    }

    private int someWheel() {
        return about(0, m.value(1) - 1);
    }

    private int teethOf(int wheel) {
        return wheel >= 0 && wheel < m.value(1) ? m.wheel(wheel, 0) : 7;
    }

    private int someTooth(int wheel) {
        return about(0, teethOf(wheel) - 1);
    }

    private static String answer(LongSupplier call) {
        try {
            return "" + call.getAsLong();
        } catch (RuntimeException e) {
            return e.getClass().getSimpleName();
        }
    }

    private void compare(String call, LongSupplier of, LongSupplier due) {
        String got = answer(of);
        String want = answer(due);
        check.isTrue("run " + run + ": " + call + " answered " + got + ", due is " + want + ":", got.equals(want));
    }

    private void go() {
        for (int k = 0; k < CALLS - 1; k++) {
            int kind = below(100);
            if (kind < 45) {
                change(kind);
            } else if (kind < 60) {
                write();
            } else {
                ask(kind - 60);
            }
        }
        compare("digest()", x::digest, m::digest);
    }

    private void change(int kind) {
        int w = someWheel();
        if (kind < 6) {
            int n = below(3) == 0 ? about(2, 60) : between(2, 12);
            int p = about(0, n - 1);
            compare("addWheel(" + n + ", " + p + ")", () -> x.addWheel(n, p), () -> m.addWheel(n, p));
        } else if (kind < 10) {
            int driver = about(0, w - 1);
            int tooth = someTooth(driver);
            int extra = below(10) == 0 ? between(-2, 2) : 2 * below(2) - 1;
            compare("setSkip(" + w + ", " + driver + ", " + tooth + ", " + extra + ")",
                () -> x.setSkip(w, driver, tooth, extra), () -> m.setSkip(w, driver, tooth, extra));
        } else if (kind < 11) {
            compare("clearSkip(" + w + ")", () -> x.clearSkip(w), () -> m.clearSkip(w));
        } else if (kind < 14) {
            int p = someTooth(w);
            int mark = someTooth(w);
            compare("setWheel(" + w + ", " + p + ", " + mark + ")",
                () -> x.setWheel(w, p, mark), () -> m.setWheel(w, p, mark));
        } else if (kind < 16) {
            int lag = about(0, 719);
            compare("setMoon(" + w + ", " + lag + ")", () -> x.setMoon(w, lag), () -> m.setMoon(w, lag));
        } else if (kind < 18) {
            int opening = about(0, 1439);
            int length = about(1, 600);
            int patience = about(0, 5);
            compare("setMarket(" + w + ", " + opening + ", " + length + ", " + patience + ")",
                () -> x.setMarket(w, opening, length, patience), () -> m.setMarket(w, opening, length, patience));
        } else if (kind < 28) {
            int t = someTooth(m.value(4));
            boolean in = below(4) != 0;
            compare("setDay(" + t + ", " + in + ")", () -> x.setDay(t, in), () -> m.setDay(t, in));
        } else if (kind < 36) {
            int days = longDays ? 400 : below(4) == 0 ? about(1, 400) : between(1, 40);
            compare("pass(" + days + ")", () -> x.pass(days), () -> m.pass(days));
        } else if (kind < 38) {
            compare("print()", x::print, m::print);
        } else if (kind < 43) {
            compare("undo()", x::undo, m::undo);
        } else {
            compare("parse()", x::parse, m::parse);
        }
    }

    private void write() {
        if (below(12) == 0) {
            compare("clearText()", x::clearText, m::clearText);
            return;
        }
        String signs = "0123456789,,,,;;;;@@@+-";
        int value = below(30) == 0 ? about(0, 127) : signs.charAt(below(signs.length()));
        compare("append(" + value + ")", () -> x.append(value), () -> m.append(value));
    }

    private void ask(int kind) {
        int w = someWheel();
        int set = about(1, (1 << m.value(1)) - 1);
        if (kind < 6) {
            int what = about(0, 6);
            compare("wheel(" + w + ", " + what + ")", () -> x.wheel(w, what), () -> m.wheel(w, what));
        } else if (kind < 12) {
            int what = about(0, 13);
            compare("value(" + what + ")", () -> x.value(what), () -> m.value(what));
        } else if (kind < 15) {
            int after = below(4) == 0 ? about(0, 1000) : below(20);
            compare("highWater(" + after + ")", () -> x.highWater(after), () -> m.highWater(after));
        } else if (kind < 20) {
            int after = below(4) == 0 ? about(0, 1000) : below(20);
            compare("market(" + after + ")", () -> x.market(after), () -> m.market(after));
        } else if (kind < 22) {
            compare("nextMarket()", x::nextMarket, m::nextMarket);
        } else if (kind < 24) {
            compare("nextMeeting(" + set + ")", () -> x.nextMeeting(set), () -> m.nextMeeting(set));
        } else if (kind < 26) {
            compare("multiple(" + set + ")", () -> x.multiple(set), () -> m.multiple(set));
        } else if (kind < 29) {
            compare("byRemainders(" + set + ") fits",
                () -> m.fitsRemainders(set, x.byRemainders(set)) ? 1 : 0, () -> m.multiple(set) > 0 ? 1 : 0);
        } else if (kind < 30) {
            compare("comesBack()", x::comesBack, m::comesBack);
        } else if (kind < 34) {
            int days = below(4) == 0 ? about(1, 1000) : between(1, 100);
            compare("errors(" + days + ")", () -> x.errors(days), () -> m.errors(days));
        } else if (kind < 36) {
            int days = about(1, 200);
            compare("bestLag(" + days + ")", () -> x.bestLag(days), () -> m.bestLag(days));
        } else if (kind < 37) {
            compare("kept()", () -> Double.doubleToLongBits(x.kept()), () -> Double.doubleToLongBits(m.kept()));
        } else {
            compare("digest()", x::digest, m::digest);
        }
    }

    /** Good texts with a fault put in here and there, each one in an object of its own. */
    private static void texts(Check check) {
        for (int k = 0; k < TEXTS; k++) {
            new ModelTest(check, RUNS + k).readText();
        }
    }

    private void readText() {
        String text = goodText();
        int faults = below(3);
        for (int f = 0; f < faults && !text.isEmpty(); f++) {
            int at = below(text.length());
            String sign = "" + "0123456789,;@+- ".charAt(below(16));
            int kind = below(3);
            text = text.substring(0, at) + (kind == 0 ? "" : sign) + text.substring(kind == 2 ? at : at + 1);
        }
        for (int i = 0; i < text.length() && i < 90; i++) {
            x.append(text.charAt(i));
            m.append(text.charAt(i));
        }
        compare("parse() of " + text, x::parse, m::parse);
        for (int w = 0; w < m.value(1); w++) {
            for (int what = 0; what <= 6; what++) {
                int wheel = w;
                int of = what;
                compare("wheel(" + w + ", " + what + ") of " + text, () -> x.wheel(wheel, of), () -> m.wheel(wheel, of));
            }
        }
    }

    private String goodText() {
        StringBuilder text = new StringBuilder();
        int[] teeth = new int[6];
        int count = below(30) == 0 ? 6 : below(6);
        for (int k = 0; k < count; k++) {
            teeth[k] = below(15) == 0 ? about(2, 60) : between(2, 60);
            text.append(teeth[k]).append(',').append(below(15) == 0 ? teeth[k] : below(Math.max(1, teeth[k])));
            if (below(2) == 0 && k > 0) {
                int driver = below(15) == 0 ? k : below(k);
                int tooth = below(15) == 0 ? teeth[driver] : below(Math.max(1, teeth[driver]));
                text.append('@').append(driver).append(',').append(tooth).append(below(2) == 0 ? '+' : '-');
            }
            text.append(';');
        }
        return text.toString();
    }
}
