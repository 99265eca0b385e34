import java.util.function.Consumer;

/** Promises 26 and 27: undo and digest. */
public final class StateTest {
    private static final Check check = new Check("StateTest");

    public static void main(String[] args) {
        undoesEachCall();
        savesCallsThatChangeNothing();
        doesNotSaveQueriesAndText();
        savesFourStates();
        leavesTheText();
        doesNotSaveWhatThrows();
        digestsANewObject();
        digestsAll();
        check.end();
    }

    private static SynodicWheels some() {
        SynodicWheels x = new SynodicWheels();
        x.addWheel(12, 4);
        x.addWheel(9, 2);
        x.addWheel(29, 20);
        x.setSkip(1, 0, 3, 1);
        x.setWheel(2, 21, 5);
        x.setMoon(0, 11);
        x.setMarket(1, 500, 100, 3);
        x.setDay(2, true);
        x.setDay(4, true);
        x.pass(30);
        x.print();
        x.pass(5);
        for (char c : "5,1;6,2@0,1-;".toCharArray()) {
            x.append(c);
        }
        return x;
    }

    private static void undoes(String call, Consumer<SynodicWheels> calls) {
        SynodicWheels x = some();
        for (int k = 0; k < 4; k++) {
            x.undo();
        }
        // Now it has no saved states, so that digest() is the same behind an undo.
        long before = x.digest();
        long ahead = x.nextMarket() + 31L * x.errors(1000) + 31L * 31L * x.comesBack();
        calls.accept(x);
        check.same("undo() of " + call, x.undo(), 0);
        check.same("digest() behind the undo of " + call, x.digest(), before);
        check.same("days behind the undo of " + call,
            x.nextMarket() + 31L * x.errors(1000) + 31L * 31L * x.comesBack(), ahead);
        check.state("a second undo of " + call, x, () -> x.undo());
    }

    private static void undoesEachCall() {
        undoes("addWheel", x -> x.addWheel(30, 3));
        undoes("setSkip", x -> x.setSkip(1, 0, 5, -1));
        undoes("setSkip of another", x -> x.setSkip(2, 1, 5, -1));
        undoes("clearSkip", x -> x.clearSkip(1));
        undoes("setWheel", x -> x.setWheel(0, 7, 7));
        undoes("setMoon", x -> x.setMoon(2, 300));
        undoes("setMarket", x -> x.setMarket(0, 7, 8, 1));
        undoes("setDay", x -> x.setDay(7, true));
        undoes("setDay out", x -> x.setDay(2, false));
        undoes("pass", x -> x.pass(77));
        undoes("pass of one day", x -> x.pass(1));
        undoes("print", x -> x.print());
        undoes("parse", x -> x.parse());
    }

    private static void savesCallsThatChangeNothing() {
        SynodicWheels x = new SynodicWheels();
        x.print();
        check.same("undo() of print()", x.undo(), 0);
        x.addWheel(9, 1);
        x.clearSkip(0);
        x.setWheel(0, 1, 0);
        x.setMoon(0, 0);
        check.same("undo()", x.undo(), 3);
        check.same("undo()", x.undo(), 2);
        check.same("undo()", x.undo(), 1);
        check.same("the wheel is there", x.value(1), 1);
        x.setMarket(0, 540, 120, 2);
        x.setDay(0, false);
        x.clearText();
        check.same("undo()", x.undo(), 2);
        check.same("undo()", x.undo(), 1);
        check.same("undo()", x.undo(), 0);
        check.same("the wheel is gone", x.value(1), 0);
        x.parse();
        check.same("undo() of parse()", x.undo(), 0);
    }

    private static void doesNotSaveQueriesAndText() {
        SynodicWheels x = new SynodicWheels();
        x.addWheel(9, 1);
        x.wheel(0, 1);
        x.value(0);
        x.highWater(3);
        x.market(3);
        x.nextMarket();
        x.nextMeeting(1);
        x.byRemainders(1);
        x.multiple(1);
        x.comesBack();
        x.errors(5);
        x.bestLag(5);
        x.kept();
        x.append('x');
        x.parse();
        x.clearText();
        x.digest();
        check.same("undo()", x.undo(), 0);
        check.same("value(1)", x.value(1), 0);
    }

    private static void savesFourStates() {
        SynodicWheels x = new SynodicWheels();
        for (int k = 0; k < 5; k++) {
            x.addWheel(10 + k, k);
        }
        x.setMoon(3, 30);
        check.same("undo() 1", x.undo(), 3);
        check.values("undone once", x, 0, 5, 0, 0);
        check.same("undo() 2", x.undo(), 2);
        check.same("undo() 3", x.undo(), 1);
        x.pass(3);
        check.same("undo() 4", x.undo(), 1);
        check.values("undone four times", x, 0, 3, 0, 0);
        check.same("undo() 5", x.undo(), 0);
        check.values("the oldest state", x, 0, 2, 0, 0);
        check.wheel("its last wheel", x, 1, 11, 1, 0, -1, -1, 0, 1);
        check.state("undo() 6", x, () -> x.undo());
        for (int k = 1; k <= 400; k++) {
            x.pass(k);
        }
        for (int k = 400, left = 3; left >= 0; k--, left--) {
            int day = x.value(0);
            check.same("undo() of pass(" + k + ")", x.undo(), left);
            check.same("the days of pass(" + k + ")", day - x.value(0), k);
        }
        check.state("no more", x, () -> x.undo());
    }

    private static void leavesTheText() {
        SynodicWheels x = new SynodicWheels();
        x.append('5');
        x.addWheel(4, 0);
        x.append(',');
        x.undo();
        check.same("the text", x.append('1'), 3);
        x.append(';');
        check.same("parse()", x.parse(), 1);
        x.clearText();
        x.undo();
        check.same("the text stays empty", x.clearText(), 0);
    }

    private static void doesNotSaveWhatThrows() {
        SynodicWheels x = new SynodicWheels();
        x.addWheel(4, 0);
        check.argument("addWheel", x, () -> x.addWheel(1, 1));
        check.index("setMoon", x, () -> x.setMoon(1, 0));
        check.argument("pass", x, () -> x.pass(0));
        check.same("undo()", x.undo(), 0);
    }

    private static void digestsANewObject() {
        long h = 3463;
        int[] values = {0, 0, 0, 0, 0, 0, 540, 120, 2, 0, 0, 0, 0, 0, 0};
        for (int v : values) {
            h = 31 * h + v;
        }
        for (int k = 0; k < 10; k++) {
            h = 31 * h - 1;
            h = 31 * h;
        }
        h = 31 * h - 1;
        h = 31 * h;
        check.same("digest() of a new object", new SynodicWheels().digest(), h);
    }

    private static long digestOf(SynodicWheels x, int textLength, int savedStates) {
        long h = 31 * 3463L + textLength;
        for (int what = 0; what <= 13; what++) {
            h = 31 * h + x.value(what);
        }
        for (int w = 0; w < x.value(1); w++) {
            for (int what = 0; what <= 6; what++) {
                h = 31 * h + x.wheel(w, what);
            }
        }
        for (int after = 0; after < 10; after++) {
            h = 31 * h + x.highWater(after);
            h = 31 * h + x.market(after);
        }
        return 31 * (31 * h + x.nextMarket()) + savedStates;
    }

    private static void digestsAll() {
        SynodicWheels x = some();
        check.same("digest()", x.digest(), digestOf(x, 13, 4));
        check.same("digest() again", x.digest(), digestOf(x, 13, 4));
        x.undo();
        check.same("digest() behind undo", x.digest(), digestOf(x, 13, 3));
        x.append('x');
        check.same("digest() with another text", x.digest(), digestOf(x, 14, 3));
        x.clearText();
        x.parse();
        check.same("digest() without wheels", x.digest(), digestOf(x, 0, 4));
        for (int k = 0; k < 5; k++) {
            x.addWheel(50 + k, 3 * k);
        }
        check.same("digest() of five wheels", x.digest(), digestOf(x, 0, 4));
    }
}
