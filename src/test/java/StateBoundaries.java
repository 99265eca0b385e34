import java.util.LinkedHashMap;
import java.util.Map;
import java.util.function.Consumer;

/** The sentences of the document's terms about undo and exceptions, and those of the promises 26 and 27. */
final class StateBoundaries {
    private static final Class<IllegalArgumentException> ARGUMENT = IllegalArgumentException.class;
    private static final Class<IllegalStateException> STATE = IllegalStateException.class;
    private static final Class<IndexOutOfBoundsException> INDEX = IndexOutOfBoundsException.class;

    private final Check check;

    StateBoundaries(Check check) {
        this.check = check;
    }

    void run() {
        savesEvenIfNothingChanges();
        savesNothingElse();
        savesAtMostFour();
        savesAllButTheText();
        changesNothingByAnException();
        throwsTheOneListedFirst();
        undo();
        undoAnswer();
        digest();
        digestAnswer();
    }

    /** Undoable calls on one wheel of 9 teeth that leave it as it is. */
    private static Map<String, Consumer<SynodicWheels>> callsThatChangeNothing() {
        Map<String, Consumer<SynodicWheels>> calls = new LinkedHashMap<>();
        calls.put("setSkip", x -> x.setSkip(1, 0, 4, 1));
        calls.put("clearSkip", x -> x.clearSkip(0));
        calls.put("setWheel", x -> x.setWheel(0, 4, 0));
        calls.put("setMoon", x -> x.setMoon(0, 0));
        calls.put("setMarket", x -> x.setMarket(0, 540, 120, 2));
        calls.put("setDay", x -> x.setDay(8, false));
        calls.put("print", SynodicWheels::print);
        calls.put("parse", SynodicWheels::parse);
        return calls;
    }

    private void savesEvenIfNothingChanges() {
        check.sentence("Terms", "Each successful call of a method whose description says \"undoable\" saves the state");
        callsThatChangeNothing().forEach((name, call) -> {
            SynodicWheels x = new SynodicWheels();
            Houses.write(x, "9,4;5,0@0,4+;");
            x.parse();
            String before = Houses.told(x);
            call.accept(x);
            check.isTrue(name + " that changes nothing", Houses.told(x).equals(before));
            check.same("undo() of " + name, x.undo(), 1);
            check.same("undo() of the first parse()", x.undo(), 0);
        });
    }

    private void savesNothingElse() {
        SynodicWheels x = Houses.wheels(9, 4);
        x.wheel(0, 6);
        x.value(13);
        x.highWater(1000);
        x.market(1000);
        x.nextMarket();
        x.nextMeeting(1);
        x.byRemainders(1);
        x.multiple(1);
        x.comesBack();
        x.errors(1000);
        x.bestLag(200);
        x.kept();
        x.append(';');
        x.parse();
        x.clearText();
        x.digest();
        check.same("undo() of the wheel", x.undo(), 0);
        check.same("the wheels", x.value(1), 0);
    }

    private void savesAtMostFour() {
        for (int days = 0; days <= 9; days++) {
            SynodicWheels x = new SynodicWheels();
            for (int k = 0; k < days; k++) {
                x.pass(1);
            }
            for (int left = Math.min(days, 4) - 1, day = days - 1; left >= 0; left--, day--) {
                check.same("undo() of " + days, x.undo(), left);
                check.same("the day then", x.value(0), day);
            }
            check.state("undo() beyond the oldest of " + days, x, () -> x.undo());
            check.same("the oldest day of " + days, x.value(0), Math.max(0, days - 4));
        }
        SynodicWheels y = Houses.fourDays();
        y.undo();
        y.undo();
        y.pass(10);
        y.pass(10);
        y.pass(10);
        int[] due = {22, 12, 2, 1};
        for (int k = 0; k < 4; k++) {
            check.same("undo() of a mixed run", y.undo(), 3 - k);
            check.same("the day of a mixed run", y.value(0), due[k]);
        }
    }

    private void savesAllButTheText() {
        check.sentence("Terms", "The saved state contains everything except the text.");
        SynodicWheels x = Houses.rich();
        String before = Houses.told(x);
        Houses.write(x, ";");
        x.parse();
        x.clearText();
        Houses.write(x, "7,7");
        x.undo();
        check.isTrue("that all is back", Houses.told(x).equals(before));
        check.same("the text stays", x.clearText(), 3);
        x.undo();
        check.same("the text stays empty", x.clearText(), 0);
        SynodicWheels y = Houses.steadyMoon(Houses.WET, 5, 0);
        y.pass(2);
        y.pass(1);
        y.setMoon(0, 240);
        y.pass(1);
        y.undo();
        y.undo();
        check.same("what was put off to the day", y.value(12), 3);
        y.undo();
        check.same("what was put off to the day before", y.value(12), 2);
    }

    private void unchanged(String call, Class<? extends RuntimeException> due, Consumer<SynodicWheels> calls) {
        SynodicWheels x = Houses.rich();
        String before = Houses.told(x);
        check.refused(call, x, due, () -> calls.accept(x));
        check.isTrue(call + " leaves the state", Houses.told(x).equals(before));
        check.same(call + " leaves the text", x.parse(), -10 - 12);
        check.same(call + " leaves the saved states", x.undo(), 3);
    }

    private void changesNothingByAnException() {
        check.sentence("Terms", "A call that throws an exception changes nothing.");
        unchanged("addWheel(9, 9)", ARGUMENT, x -> x.addWheel(9, 9));
        unchanged("addWheel(9, 8)", STATE, x -> x.addWheel(9, 8));
        unchanged("setSkip(5, 0, 0, 1)", INDEX, x -> x.setSkip(5, 0, 0, 1));
        unchanged("setSkip(1, 0, 4, 0)", ARGUMENT, x -> x.setSkip(1, 0, 4, 0));
        unchanged("clearSkip(5)", INDEX, x -> x.clearSkip(5));
        unchanged("setWheel(5, 0, 0)", INDEX, x -> x.setWheel(5, 0, 0));
        unchanged("setWheel(0, 0, 12)", ARGUMENT, x -> x.setWheel(0, 0, 12));
        unchanged("setMoon(5, 0)", INDEX, x -> x.setMoon(5, 0));
        unchanged("setMoon(0, 720)", ARGUMENT, x -> x.setMoon(0, 720));
        unchanged("setMarket(5, 0, 1, 0)", INDEX, x -> x.setMarket(5, 0, 1, 0));
        unchanged("setMarket(0, 0, 1, 6)", ARGUMENT, x -> x.setMarket(0, 0, 1, 6));
        unchanged("setDay(9, true)", ARGUMENT, x -> x.setDay(9, true));
        unchanged("pass(401)", ARGUMENT, x -> x.pass(401));
        unchanged("wheel(0, 7)", ARGUMENT, x -> x.wheel(0, 7));
        unchanged("value(14)", ARGUMENT, x -> x.value(14));
        unchanged("highWater(1001)", ARGUMENT, x -> x.highWater(1001));
        unchanged("market(1001)", ARGUMENT, x -> x.market(1001));
        unchanged("nextMeeting(32)", ARGUMENT, x -> x.nextMeeting(32));
        unchanged("byRemainders(32)", ARGUMENT, x -> x.byRemainders(32));
        unchanged("multiple(32)", ARGUMENT, x -> x.multiple(32));
        unchanged("errors(1001)", ARGUMENT, x -> x.errors(1001));
        unchanged("bestLag(201)", ARGUMENT, x -> x.bestLag(201));
        unchanged("append(128)", ARGUMENT, x -> x.append(128));
    }

    private void throwsTheOneListedFirst() {
        check.sentence("Terms", "If several exceptions apply, the one that is listed first is thrown.");
        SynodicWheels x = Houses.rich();
        check.argument("addWheel() of a sixth wheel out of range", x, () -> x.addWheel(61, 0));
        check.argument("addWheel() of a sixth wheel at no tooth", x, () -> x.addWheel(9, 9));
        check.index("setSkip()", x, () -> x.setSkip(5, 5, -1, 0));
        check.index("setSkip() of -1", x, () -> x.setSkip(-1, -2, 0, 1));
        check.index("setWheel()", x, () -> x.setWheel(5, -1, -1));
        check.index("setMoon()", x, () -> x.setMoon(5, 720));
        check.index("setMarket()", x, () -> x.setMarket(-1, -1, 0, 6));
        check.index("wheel()", x, () -> x.wheel(5, 7));
        SynodicWheels none = new SynodicWheels();
        check.index("wheel() without wheels", none, () -> none.wheel(0, -1));
        check.index("setMoon() without wheels", none, () -> none.setMoon(0, -1));
        Houses.write(none, "2".repeat(90));
        check.argument("append() to a full text", none, () -> none.append(128));
        for (int k = 0; k < 250; k++) {
            none.pass(400);
        }
        check.argument("pass(0) on the last day", none, () -> none.pass(0));
        check.argument("pass(401) on the last day", none, () -> none.pass(401));
    }

    private void undo() {
        check.sentence("Promise 26", "Restores the most recently saved state and removes it from the saved states.");
        SynodicWheels x = Houses.wheels(9, 4);
        x.setWheel(0, 5, 1);
        x.setWheel(0, 6, 2);
        x.undo();
        check.wheel("the most recent one", x, 0, 9, 5, 1);
        x.undo();
        check.wheel("the one before", x, 0, 9, 4, 0);
        x.undo();
        check.same("the first one", x.value(1), 0);
        check.sentence("Promise 26", "Throws `IllegalStateException` if there is no saved state");
        check.state("undo() of all", x, () -> x.undo());
        SynodicWheels none = new SynodicWheels();
        check.state("undo() of a new object", none, () -> none.undo());
        check.same("behind it", none.addWheel(9, 4), 0);
    }

    private void undoAnswer() {
        check.sentence("Promise 26", "Returns the number of saved states that remain.");
        SynodicWheels x = Houses.fourDays();
        for (int left = 3; left >= 0; left--) {
            check.same("undo()", x.undo(), left);
        }
        x.print();
        check.same("undo() of one", x.undo(), 0);
    }

    /** The words of the promise, with what the object itself answers. */
    private static long hashOf(SynodicWheels x, int textLength, int savedStates) {
        long h = 31 * 3463L + textLength;
        for (int what = 0; what <= 13; what++) {
            h = 31 * h + x.value(what);
        }
        int count = x.value(1);
        for (int wheel = 0; wheel < count; wheel++) {
            for (int what = 0; what <= 6; what++) {
                h = 31 * h + x.wheel(wheel, what);
            }
        }
        for (int after = 0; after <= 9; after++) {
            h = 31 * h + x.highWater(after);
            h = 31 * h + x.market(after);
        }
        h = 31 * h + x.nextMarket();
        return 31 * h + savedStates;
    }

    private void digest() {
        check.sentence("Promise 27", "Returns a hash of the state.");
        check.sentence("Promise 27", "Start with h = 3463 and, for each of the following values v, set h = 31 * h + v");
        SynodicWheels x = new SynodicWheels();
        for (int wheels = 0; wheels <= 5; wheels++) {
            check.same("of " + wheels + " wheels", x.digest(), hashOf(x, wheels, Math.min(wheels, 4)));
            x.append('x');
            if (wheels < 5) {
                x.addWheel(2 + 3 * wheels, wheels);
            }
        }
        SynodicWheels y = Houses.rich();
        for (int left = 4; left >= 0; left--) {
            check.same("with " + left + " saved states", y.digest(), hashOf(y, 12, left));
            if (left > 0) {
                y.undo();
            }
        }
        check.same("of a full text", fullText().digest(), hashOf(fullText(), 90, 0));
    }

    private static SynodicWheels fullText() {
        SynodicWheels x = new SynodicWheels();
        Houses.write(x, ";".repeat(90));
        return x;
    }

    private void digestAnswer() {
        check.sentence("Promise 27", "Returns the hash, with the overflow of long arithmetic ignored.");
        // A new house: 40 values, each written out.
        int[] values = {0, 0, 0, 0, 0, 0, 540, 120, 2, 0, 0, 0, 0, 0, 0, -1, 0, -1, 0, -1, 0, -1, 0, -1, 0, -1, 0, -1, 0,
            -1, 0, -1, 0, -1, 0, -1, 0};
        java.math.BigInteger h = java.math.BigInteger.valueOf(3463);
        for (int v : values) {
            h = h.multiply(java.math.BigInteger.valueOf(31)).add(java.math.BigInteger.valueOf(v));
        }
        check.same("of a new object", new SynodicWheels().digest(), h.longValue());
        SynodicWheels x = Houses.rich();
        check.same("asked twice", x.digest(), x.digest());
    }
}
