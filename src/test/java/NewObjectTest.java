/** Promise 1: a new object. */
public final class NewObjectTest {
    public static void main(String[] args) {
        Check check = new Check("NewObjectTest");
        SynodicWheels x = new SynodicWheels();
        check.same("NONE", SynodicWheels.NONE, -1);
        check.values("new", x, 0, 0, 0, 0, 0, 540, 120, 2, 0, 0, 0, 0, 0, 0);
        check.same("highWater(0)", x.highWater(0), SynodicWheels.NONE);
        check.same("highWater(1000)", x.highWater(1000), SynodicWheels.NONE);
        check.markets("new", x, 0, 0, 0);
        check.same("nextMarket()", x.nextMarket(), SynodicWheels.NONE);
        check.same("comesBack()", x.comesBack(), SynodicWheels.NONE);
        check.same("errors(1000)", x.errors(1000), 0);
        check.same("bestLag(200)", x.bestLag(200), 0);
        check.sameDouble("kept()", x.kept(), 1.0);
        check.index("wheel(0, 0)", x, () -> x.wheel(0, 0));
        check.argument("nextMeeting(1)", x, () -> x.nextMeeting(1));
        check.state("undo()", x, () -> x.undo());
        check.same("clearText()", x.clearText(), 0);

        // Two objects share nothing.
        SynodicWheels y = new SynodicWheels();
        y.addWheel(7, 3);
        y.append('2');
        y.setMoon(0, 5);
        check.values("beside another object", x, 0, 0, 0, 0, 0, 540, 120, 2, 0, 0, 0, 0, 0, 0);
        check.same("clearText() beside another object", x.clearText(), 0);
        check.end();
    }
}
