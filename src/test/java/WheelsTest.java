/** Promises 2 to 5 and 11: wheels, skips, positions and marks, and what wheel() tells. */
public final class WheelsTest {
    private static final Check check = new Check("WheelsTest");

    public static void main(String[] args) {
        addsWheels();
        refusesWheels();
        addsALateWheel();
        setsSkips();
        refusesSkips();
        countsADriverThatStands();
        skipsByTheDriversNewTooth();
        movesRoundTheLastTooth();
        clearsSkips();
        setsPositionAndMark();
        refusesPositionsAndMarks();
        refusesToTell();
        check.end();
    }

    private static void addsWheels() {
        SynodicWheels x = new SynodicWheels();
        check.same("addWheel(2, 1)", x.addWheel(2, 1), 0);
        check.same("addWheel(60, 59)", x.addWheel(60, 59), 1);
        check.same("addWheel(29, 0)", x.addWheel(29, 0), 2);
        check.same("value(1)", x.value(1), 3);
        check.wheel("2 teeth", x, 0, 2, 1, 0, -1, -1, 0, 1);
        check.wheel("60 teeth", x, 1, 60, 59, 0, -1, -1, 0, 59);
        check.wheel("29 teeth", x, 2, 29, 0, 0, -1, -1, 0, 0);
        check.same("addWheel(3, 2)", x.addWheel(3, 2), 3);
        check.same("addWheel(4, 3)", x.addWheel(4, 3), 4);
    }

    private static void refusesWheels() {
        SynodicWheels x = new SynodicWheels();
        int[][] wrong = {{1, 0}, {0, 0}, {-5, 0}, {61, 0}, {5, 5}, {5, -1}, {60, 60},
            {Integer.MAX_VALUE, 0}, {Integer.MIN_VALUE, 0}, {5, Integer.MAX_VALUE}, {5, Integer.MIN_VALUE}};
        for (int[] w : wrong) {
            check.argument("addWheel(" + w[0] + ", " + w[1] + ")", x, () -> x.addWheel(w[0], w[1]));
        }
        for (int k = 0; k < 5; k++) {
            x.addWheel(10, k);
        }
        check.state("a sixth wheel", x, () -> x.addWheel(10, 0));
        check.argument("a sixth wheel out of range", x, () -> x.addWheel(10, 10));
        check.same("value(1)", x.value(1), 5);
    }

    private static void addsALateWheel() {
        SynodicWheels x = new SynodicWheels();
        x.addWheel(5, 0);
        x.pass(13);
        x.addWheel(7, 2);
        check.same("printed", x.value(13), 0);
        check.wheel("the wheel of before", x, 0, 5, 3, 0, -1, -1, 0, 3);
        check.wheel("the late wheel", x, 1, 7, 2, 0, -1, -1, 0, 2);
        x.pass(1);
        check.wheel("the late wheel a day on", x, 1, 7, 3, 0, -1, -1, 0, 3);

        // A wheel that undo took away leaves nothing to the one that comes in its place.
        SynodicWheels y = new SynodicWheels();
        y.addWheel(5, 0);
        y.addWheel(9, 8);
        y.setSkip(1, 0, 0, 1);
        y.setWheel(1, 7, 6);
        y.undo();
        y.undo();
        y.undo();
        y.addWheel(4, 1);
        check.wheel("the wheel in its place", y, 1, 4, 1, 0, -1, -1, 0, 1);
    }

    private static void setsSkips() {
        SynodicWheels x = new SynodicWheels();
        x.addWheel(4, 0);
        x.addWheel(10, 0);
        x.addWheel(10, 0);
        check.same("setSkip(1, 0, 2, -1)", x.setSkip(1, 0, 2, -1), 0);
        check.wheel("stands", x, 1, 10, 0, 0, 0, 2, -1, 0);
        check.same("setSkip(2, 0, 3, 1)", x.setSkip(2, 0, 3, 1), 0);
        check.wheel("runs", x, 2, 10, 0, 0, 0, 3, 1, 0);
        int[] stands = {1, 1, 2, 3, 4, 4, 5, 6, 7, 7};
        int[] runs = {1, 2, 4, 5, 6, 7, 9, 0, 1, 2};
        for (int d = 0; d < stands.length; d++) {
            x.pass(1);
            check.same("stands, day " + d, x.wheel(1, 1), stands[d]);
            check.same("runs, day " + d, x.wheel(2, 1), runs[d]);
            check.same("the almanac, day " + d, x.wheel(2, 6), (d + 1) % 10);
        }
        check.same("setSkip in place of another", x.setSkip(2, 1, 9, -1), 1);
        check.wheel("in place of another", x, 2, 10, 2, 0, 1, 9, -1, 0);
        check.same("the same skip again", x.setSkip(2, 1, 9, -1), 1);
    }

    private static void refusesSkips() {
        SynodicWheels x = new SynodicWheels();
        check.index("without wheels", x, () -> x.setSkip(0, 0, 0, 1));
        x.addWheel(4, 0);
        x.addWheel(10, 0);
        x.addWheel(6, 0);
        check.index("wheel -1", x, () -> x.setSkip(-1, 0, 0, 1));
        check.index("wheel 3", x, () -> x.setSkip(3, 0, 0, 1));
        check.index("wheel 3 and all wrong", x, () -> x.setSkip(3, 9, 99, 7));
        check.argument("a driver of the lowest wheel", x, () -> x.setSkip(0, 0, 0, 1));
        check.argument("driver -1", x, () -> x.setSkip(1, -1, 0, 1));
        check.argument("the wheel drives itself", x, () -> x.setSkip(1, 1, 0, 1));
        check.argument("a driver with a higher number", x, () -> x.setSkip(1, 2, 0, 1));
        check.argument("tooth -1", x, () -> x.setSkip(1, 0, -1, 1));
        check.argument("tooth 4 of 4", x, () -> x.setSkip(1, 0, 4, 1));
        check.argument("a tooth of the wheel, none of the driver", x, () -> x.setSkip(2, 0, 5, 1));
        check.argument("extra 0", x, () -> x.setSkip(1, 0, 0, 0));
        check.argument("extra 2", x, () -> x.setSkip(1, 0, 0, 2));
        check.argument("extra -2", x, () -> x.setSkip(1, 0, 0, -2));
        check.same("tooth 9 of 10", x.setSkip(2, 1, 9, 1), 0);
    }

    private static void countsADriverThatStands() {
        SynodicWheels x = new SynodicWheels();
        x.addWheel(5, 0);
        x.addWheel(4, 2);
        x.addWheel(6, 0);
        x.setSkip(1, 0, 1, -1);
        x.setSkip(2, 1, 2, 1);
        x.pass(1);
        check.same("the driver stands", x.wheel(1, 1), 2);
        check.same("its wheel runs all the same", x.wheel(2, 1), 2);
        x.pass(1);
        check.same("the driver moves away", x.wheel(1, 1), 3);
        check.same("its wheel moves by one", x.wheel(2, 1), 3);
    }

    private static void skipsByTheDriversNewTooth() {
        SynodicWheels x = new SynodicWheels();
        x.addWheel(5, 3);
        x.addWheel(8, 0);
        x.setSkip(1, 0, 3, 1);
        x.pass(1);
        check.same("the driver has left the tooth", x.wheel(1, 1), 1);
        x.setSkip(1, 0, 0, 1);
        x.pass(1);
        check.same("the driver comes to the tooth", x.wheel(1, 1), 3);
    }

    private static void movesRoundTheLastTooth() {
        SynodicWheels x = new SynodicWheels();
        x.addWheel(2, 1);
        x.addWheel(2, 1);
        x.addWheel(7, 6);
        x.addWheel(7, 5);
        x.setSkip(1, 0, 0, 1);
        x.setSkip(2, 0, 0, 1);
        x.setSkip(3, 0, 0, 1);
        x.pass(1);
        check.same("2 teeth", x.wheel(0, 1), 0);
        check.same("2 teeth by 2", x.wheel(1, 1), 1);
        check.same("7 teeth by 2 from the last", x.wheel(2, 1), 1);
        check.same("7 teeth by 2 from the last but one", x.wheel(3, 1), 0);
    }

    private static void clearsSkips() {
        SynodicWheels x = new SynodicWheels();
        x.addWheel(4, 0);
        x.addWheel(10, 3);
        check.same("clearSkip(1) without one", x.clearSkip(1), 0);
        x.setSkip(1, 0, 1, -1);
        check.same("clearSkip(1)", x.clearSkip(1), 1);
        check.wheel("cleared", x, 1, 10, 3, 0, -1, -1, 0, 3);
        x.pass(1);
        check.same("moves again", x.wheel(1, 1), 4);
        check.same("clearSkip(1) again", x.clearSkip(1), 0);
        check.same("clearSkip(0)", x.clearSkip(0), 0);
        check.index("clearSkip(2)", x, () -> x.clearSkip(2));
        check.index("clearSkip(-1)", x, () -> x.clearSkip(-1));
    }

    private static void setsPositionAndMark() {
        SynodicWheels x = new SynodicWheels();
        x.addWheel(6, 4);
        x.addWheel(9, 2);
        check.same("setWheel(0, 5, 3)", x.setWheel(0, 5, 3), 4);
        check.wheel("set", x, 0, 6, 5, 3, -1, -1, 0, 4);
        check.same("setWheel(0, 0, 0)", x.setWheel(0, 0, 0), 5);
        check.same("setWheel(1, 8, 8)", x.setWheel(1, 8, 8), 2);
        check.wheel("the other one", x, 1, 9, 8, 8, -1, -1, 0, 2);
        x.pass(2);
        check.wheel("two days on", x, 1, 9, 1, 8, -1, -1, 0, 4);
    }

    private static void refusesPositionsAndMarks() {
        SynodicWheels x = new SynodicWheels();
        check.index("without wheels", x, () -> x.setWheel(0, 0, 0));
        x.addWheel(6, 4);
        x.addWheel(9, 2);
        check.index("wheel 2", x, () -> x.setWheel(2, 0, 0));
        check.index("wheel -1 and all wrong", x, () -> x.setWheel(-1, -1, -1));
        check.argument("position 6 of 6", x, () -> x.setWheel(0, 6, 0));
        check.argument("position -1", x, () -> x.setWheel(0, -1, 0));
        check.argument("mark 6 of 6", x, () -> x.setWheel(0, 0, 6));
        check.argument("mark -1", x, () -> x.setWheel(0, 0, -1));
        check.argument("mark 9 of 9", x, () -> x.setWheel(1, 0, 9));
    }

    private static void refusesToTell() {
        SynodicWheels x = new SynodicWheels();
        check.index("wheel(0, 0) without wheels", x, () -> x.wheel(0, 0));
        x.addWheel(6, 4);
        check.index("wheel(1, 0)", x, () -> x.wheel(1, 0));
        check.index("wheel(-1, 0)", x, () -> x.wheel(-1, 0));
        check.index("wheel(5, 7)", x, () -> x.wheel(5, 7));
        check.argument("wheel(0, 7)", x, () -> x.wheel(0, 7));
        check.argument("wheel(0, -1)", x, () -> x.wheel(0, -1));
    }
}
