/** The sentences of the promises 1 to 5, 10 and 11: wheels, skips, marks, the printing, and what wheel() tells. */
final class WheelBoundaries {
    private static final Class<IllegalArgumentException> ARGUMENT = IllegalArgumentException.class;
    private static final Class<IndexOutOfBoundsException> INDEX = IndexOutOfBoundsException.class;
    private static final int NONE = SynodicWheels.NONE;

    private final Check check;

    WheelBoundaries(Check check) {
        this.check = check;
    }

    void run() {
        newObject();
        addWheel();
        addWheelRanges();
        addWheelToFive();
        setSkip();
        setSkipWheel();
        setSkipDriver();
        setSkipToothAndExtra();
        setSkipAnswer();
        clearSkip();
        clearSkipAnswer();
        setWheel();
        setWheelRanges();
        setWheelAnswer();
        print();
        printAnswer();
        wheel();
        wheelWithoutSkip();
        wheelRanges();
    }

    /** Five wheels of 2, 60, 7, 12 and 31 teeth. */
    private static SynodicWheels five() {
        return Houses.wheels(2, 1, 60, 59, 7, 3, 12, 0, 31, 30);
    }

    private void newObject() {
        check.sentence("Promise 1", "Creates a house without wheels, on day 0.");
        SynodicWheels x = new SynodicWheels();
        check.values("new", x, 0, 0, 0, 0, 0, 540, 120, 2, 0, 0, 0, 0, 0, 0);
        check.index("the wheel 0", x, () -> x.wheel(0, 0));
        check.same("the text", x.clearText(), 0);
        check.state("no saved state", x, () -> x.undo());
    }

    private void addWheel() {
        check.sentence("Promise 2", "Adds a wheel.");
        SynodicWheels x = Houses.wheels(9, 8);
        x.addWheel(5, 4);
        check.same("the wheels", x.value(1), 2);
        check.wheel("the one that was there", x, 0, 9, 8, 0, NONE, NONE, 0, 8);
        check.wheel("the one that is new", x, 1, 5, 4, 0, NONE, NONE, 0, 4);
        x.setSkip(1, 0, 8, -1);
        x.setWheel(1, 3, 2);
        for (int k = 0; k < 3; k++) {
            x.undo();
        }
        x.addWheel(6, 5);
        check.wheel("in place of one that is undone", x, 1, 6, 5, 0, NONE, NONE, 0, 5);
        check.sentence("Promise 2", "Undoable.");
        check.undone("addWheel(60, 59)", WheelBoundaries::fourOfRich, y -> y.addWheel(60, 59));
        check.undone("addWheel(2, 0)", SynodicWheels::new, y -> y.addWheel(2, 0));
    }

    /** Room for one wheel, and the rest as in a rich house. */
    private static SynodicWheels fourOfRich() {
        SynodicWheels x = Houses.wheels(12, 4, 9, 2, 29, 20, 60, 59);
        x.setSkip(1, 0, 3, 1);
        x.setMarket(1, 500, 100, 3);
        x.setDay(2, true);
        x.pass(31);
        return x;
    }

    private void addWheelRanges() {
        check.sentence("Promise 2", "`teeth`: 2 to 60");
        check.range("teeth", 2, 60, ARGUMENT, SynodicWheels::new, (x, teeth) -> x.addWheel(teeth, 0));
        check.sentence("Promise 2", "`position`: 0 to teeth - 1");
        for (int teeth = 2; teeth <= 60; teeth++) {
            int all = teeth;
            check.range("position of " + teeth, 0, teeth - 1, ARGUMENT, SynodicWheels::new, (x, p) -> x.addWheel(all, p));
        }
        check.sentence("Promise 2", "Throws `IllegalArgumentException` if an argument is out of range");
        SynodicWheels x = new SynodicWheels();
        check.argument("the teeth alone", x, () -> x.addWheel(61, 30));
        check.argument("the position alone", x, () -> x.addWheel(30, 30));
        check.argument("both", x, () -> x.addWheel(1, 1));
        check.argument("both too low", x, () -> x.addWheel(-1, -2));
    }

    private void addWheelToFive() {
        check.sentence("Promise 2", "Returns the number of the wheel.");
        SynodicWheels x = new SynodicWheels();
        for (int k = 0; k < 5; k++) {
            check.same("addWheel()", x.addWheel(10, k), k);
        }
        check.sentence("Promise 2", "Throws `IllegalStateException` if there are 5 wheels");
        check.state("addWheel() to five", x, () -> x.addWheel(10, 0));
        x.undo();
        check.same("addWheel() to four", x.addWheel(11, 10), 4);
        check.state("addWheel() to five again", x, () -> x.addWheel(2, 1));
        SynodicWheels y = new SynodicWheels();
        Houses.write(y, "2,0;2,0;2,0;2,0;2,0;");
        y.parse();
        check.state("addWheel() to five of a text", y, () -> y.addWheel(2, 1));
    }

    private void setSkip() {
        check.sentence("Promise 3", "Gives a wheel a skip, in place of the one that it has.");
        SynodicWheels x = Houses.wheels(3, 0, 10, 0, 10, 0);
        x.setSkip(2, 0, 1, -1);
        x.setSkip(2, 1, 5, 1);
        check.wheel("with its second skip", x, 2, 10, 0, 0, 1, 5, 1);
        x.pass(4);
        check.same("the first skip is gone", x.wheel(2, 1), 4);
        x.pass(1);
        check.same("the second one works", x.wheel(2, 1), 6);
        check.wheel("no other wheel has one", x, 1, 10, 5, 0, NONE, NONE, 0);
        check.sentence("Promise 3", "Undoable.");
        check.undone("setSkip() in place of one", Houses::rich, y -> y.setSkip(1, 0, 5, -1));
        check.undone("setSkip() of a wheel without one", Houses::rich, y -> y.setSkip(2, 1, 8, -1));
        check.undone("setSkip() to the same", Houses::rich, y -> y.setSkip(1, 0, 3, 1));
    }

    private void setSkipWheel() {
        check.sentence("Promise 3", "`wheel`: number of a wheel");
        for (int k = 1; k < 5; k++) {
            check.same("setSkip() of " + k, five().setSkip(k, 0, 1, -1), 0);
        }
        check.sentence("Promise 3", "Throws `IndexOutOfBoundsException` if there is no such wheel");
        for (int wheel : new int[] {-1, 5, 31, Integer.MIN_VALUE, Integer.MAX_VALUE}) {
            SynodicWheels x = five();
            check.index("setSkip() of " + wheel, x, () -> x.setSkip(wheel, 0, 1, 1));
        }
        SynodicWheels none = new SynodicWheels();
        check.index("setSkip() without wheels", none, () -> none.setSkip(0, 0, 0, 1));
        SynodicWheels two = Houses.wheels(3, 0, 3, 0);
        check.index("setSkip() of the wheel 2 of two", two, () -> two.setSkip(2, 0, 0, 1));
    }

    private void setSkipDriver() {
        check.sentence("Promise 3", "`driver`: number of a wheel with a lower number");
        for (int wheel = 1; wheel < 5; wheel++) {
            int driven = wheel;
            check.range("driver of " + wheel, 0, wheel - 1, ARGUMENT, WheelBoundaries::five,
                (x, driver) -> x.setSkip(driven, driver, 0, 1));
        }
        for (int driver : new int[] {-1, 0, 1, 4}) {
            SynodicWheels x = five();
            check.argument("driver " + driver + " of the wheel 0", x, () -> x.setSkip(0, driver, 0, 1));
        }
    }

    private void setSkipToothAndExtra() {
        check.sentence("Promise 3", "`tooth`: a tooth of the driver");
        int[] teeth = {2, 60, 7, 12};
        for (int driver = 0; driver < 4; driver++) {
            int drives = driver;
            check.range("tooth of the driver " + driver, 0, teeth[driver] - 1, ARGUMENT, WheelBoundaries::five,
                (x, tooth) -> x.setSkip(4, drives, tooth, -1));
        }
        check.sentence("Promise 3", "`extra`: -1 or 1");
        for (int extra : new int[] {0, -2, 2, Integer.MIN_VALUE, Integer.MAX_VALUE}) {
            SynodicWheels x = five();
            check.argument("extra " + extra, x, () -> x.setSkip(1, 0, 1, extra));
        }
        for (int extra : new int[] {-1, 1}) {
            SynodicWheels x = five();
            x.setSkip(1, 0, 1, extra);
            check.same("extra " + extra, x.wheel(1, 5), extra);
        }
        check.sentence("Promise 3", "Throws `IllegalArgumentException` if driver, tooth or extra is out of range");
        SynodicWheels x = five();
        check.argument("the driver alone", x, () -> x.setSkip(1, 1, 0, 1));
        check.argument("the tooth alone", x, () -> x.setSkip(1, 0, 2, 1));
        check.argument("the extra step alone", x, () -> x.setSkip(1, 0, 1, 0));
        check.argument("all of them", x, () -> x.setSkip(1, -1, -1, 3));
    }

    private void setSkipAnswer() {
        check.sentence("Promise 3", "Returns 1 if it had a skip, otherwise 0.");
        SynodicWheels x = five();
        check.same("the first time", x.setSkip(1, 0, 0, 1), 0);
        check.same("the second time", x.setSkip(1, 0, 1, -1), 1);
        check.same("another wheel", x.setSkip(2, 0, 0, 1), 0);
        x.clearSkip(1);
        check.same("cleared", x.setSkip(1, 0, 0, 1), 0);
    }

    private void clearSkip() {
        check.sentence("Promise 4", "Takes the skip of a wheel away.");
        SynodicWheels x = five();
        x.setSkip(1, 0, 0, -1);
        x.setSkip(2, 0, 0, -1);
        x.clearSkip(1);
        check.wheel("without its skip", x, 1, 60, 59, 0, NONE, NONE, 0);
        check.wheel("the other one", x, 2, 7, 3, 0, 0, 0, -1);
        x.pass(1);
        check.same("it moves", x.wheel(1, 1), 0);
        check.same("the other one stands", x.wheel(2, 1), 3);
        check.sentence("Promise 4", "Undoable.");
        check.undone("clearSkip(1)", Houses::rich, y -> y.clearSkip(1));
        check.undone("clearSkip(2) without a skip", Houses::rich, y -> y.clearSkip(2));
    }

    private void clearSkipAnswer() {
        check.sentence("Promise 4", "`wheel`: number of a wheel");
        check.range("wheel", 0, 4, INDEX, WheelBoundaries::five, (x, wheel) -> x.clearSkip(wheel));
        check.sentence("Promise 4", "Throws `IndexOutOfBoundsException` if there is no such wheel");
        check.range("wheel of one", 0, 0, INDEX, () -> Houses.wheels(2, 0), (x, wheel) -> x.clearSkip(wheel));
        SynodicWheels none = new SynodicWheels();
        check.index("clearSkip(0) without wheels", none, () -> none.clearSkip(0));
        check.sentence("Promise 4", "Returns 1 if it had a skip, otherwise 0.");
        SynodicWheels x = five();
        check.same("without a skip", x.clearSkip(4), 0);
        x.setSkip(4, 0, 0, 1);
        check.same("with a skip", x.clearSkip(4), 1);
        check.same("without it again", x.clearSkip(4), 0);
        check.same("the wheel 0", x.clearSkip(0), 0);
    }

    private void setWheel() {
        check.sentence("Promise 5", "Sets position and mark of a wheel.");
        SynodicWheels x = five();
        x.setWheel(1, 10, 12);
        check.wheel("set", x, 1, 60, 10, 12, NONE, NONE, 0);
        check.same("the days until its mark", x.nextMeeting(2), 2);
        check.wheel("the one before", x, 0, 2, 1, 0);
        check.wheel("the one behind", x, 2, 7, 3, 0);
        check.sentence("Promise 5", "(The almanac stays as it is.)");
        check.same("by the almanac", x.wheel(1, 6), 59);
        x.pass(1);
        check.same("by the almanac tomorrow", x.wheel(1, 6), 0);
        check.same("printed on", x.value(13), 0);
        check.sentence("Promise 5", "Undoable.");
        check.undone("setWheel()", Houses::rich, y -> y.setWheel(2, 0, 28));
        check.undone("setWheel() of the mark", Houses::rich, y -> y.setWheel(0, y.wheel(0, 1), 11));
    }

    private void setWheelRanges() {
        check.sentence("Promise 5", "`wheel`: number of a wheel");
        check.range("wheel", 0, 4, INDEX, WheelBoundaries::five, (x, wheel) -> x.setWheel(wheel, 1, 1));
        check.sentence("Promise 5", "Throws `IndexOutOfBoundsException` if there is no such wheel");
        check.range("wheel of one", 0, 0, INDEX, () -> Houses.wheels(2, 0), (x, wheel) -> x.setWheel(wheel, 1, 1));
        SynodicWheels none = new SynodicWheels();
        check.index("setWheel() without wheels", none, () -> none.setWheel(0, 0, 0));
        int[] teeth = {2, 60, 7, 12, 31};
        for (int k = 0; k < 5; k++) {
            int wheel = k;
            check.sentence("Promise 5", "`position`: a tooth of it");
            check.range("position of " + k, 0, teeth[k] - 1, ARGUMENT, WheelBoundaries::five,
                (x, position) -> x.setWheel(wheel, position, 0));
            check.sentence("Promise 5", "`mark`: a tooth of it");
            check.range("mark of " + k, 0, teeth[k] - 1, ARGUMENT, WheelBoundaries::five,
                (x, mark) -> x.setWheel(wheel, 0, mark));
        }
        check.sentence("Promise 5", "Throws `IllegalArgumentException` if position or mark is out of range");
        SynodicWheels x = five();
        check.argument("the position alone", x, () -> x.setWheel(0, 2, 1));
        check.argument("the mark alone", x, () -> x.setWheel(0, 1, 2));
        check.argument("both", x, () -> x.setWheel(0, -1, 2));
    }

    private void setWheelAnswer() {
        check.sentence("Promise 5", "Returns the previous position.");
        SynodicWheels x = five();
        check.same("the first one", x.setWheel(1, 0, 5), 59);
        check.same("tooth 0", x.setWheel(1, 58, 6), 0);
        x.pass(3);
        check.same("moved", x.setWheel(1, 58, 7), 1);
    }

    private void print() {
        check.sentence("Promise 10", "Prints the almanac anew, today.");
        SynodicWheels x = five();
        x.setSkip(1, 0, 0, -1);
        x.pass(10);
        check.same("before", x.wheel(1, 6), 9);
        x.print();
        check.same("printed on", x.value(13), 10);
        for (int k = 0; k < 5; k++) {
            check.same("the position of " + k + " in it", x.wheel(k, 6), x.wheel(k, 1));
        }
        check.same("the position of the wheel with a skip", x.wheel(1, 6), 4);
        x.pass(400);
        check.same("400 days later", x.wheel(1, 6), 44);
        check.sentence("Promise 10", "Undoable.");
        check.undone("print()", Houses::rich, SynodicWheels::print);
        check.undone("print() on the day of printing", SynodicWheels::new, SynodicWheels::print);
    }

    private void printAnswer() {
        check.sentence("Promise 10", "Returns the day on which it was printed before.");
        SynodicWheels x = five();
        check.same("on day 0", x.print(), 0);
        x.pass(7);
        check.same("on day 7", x.print(), 0);
        check.same("on day 7 again", x.print(), 7);
        x.pass(1);
        x.parse();
        check.same("behind parse()", x.print(), 8);
    }

    private void wheel() {
        check.sentence("Promise 11", "Returns something about a wheel.");
        check.sentence("Promise 11", "`what`: 0 its teeth, 1 its position, 2 its mark, 3 the driver of its skip");
        check.sentence("Promise 11", "Returns that value.");
        SynodicWheels x = five();
        x.setWheel(3, 4, 5);
        x.setSkip(3, 2, 6, 1);
        check.wheel("all about it", x, 3, 12, 4, 5, 2, 6, 1, 0);
        x.setSkip(3, 0, 0, -1);
        check.wheel("with driver 0 and tooth 0", x, 3, 12, 4, 5, 0, 0, -1, 0);
        x.pass(12);
        check.wheel("a round of the almanac later", x, 3, 12, 10, 5, 0, 0, -1, 0);
        x.pass(11);
        check.wheel("nearly a round later", x, 3, 12, 3, 5, 0, 0, -1, 11);
    }

    private void wheelWithoutSkip() {
        SynodicWheels x = five();
        for (int k = 0; k < 5; k++) {
            check.same("the driver of " + k, x.wheel(k, 3), NONE);
            check.same("the tooth of " + k, x.wheel(k, 4), NONE);
            check.same("the extra step of " + k, x.wheel(k, 5), 0);
        }
    }

    private void wheelRanges() {
        check.sentence("Promise 11", "`wheel`: number of a wheel");
        check.range("wheel", 0, 4, INDEX, WheelBoundaries::five, (x, wheel) -> x.wheel(wheel, 0));
        check.sentence("Promise 11", "Throws `IndexOutOfBoundsException` if there is no such wheel");
        check.range("wheel of one", 0, 0, INDEX, () -> Houses.wheels(2, 0), (x, wheel) -> x.wheel(wheel, 6));
        SynodicWheels none = new SynodicWheels();
        check.index("wheel(0, 0) without wheels", none, () -> none.wheel(0, 0));
        check.sentence("Promise 11", "Throws `IllegalArgumentException` if what is out of range");
        check.range("what", 0, 6, ARGUMENT, WheelBoundaries::five, (x, what) -> x.wheel(4, what));
    }
}
