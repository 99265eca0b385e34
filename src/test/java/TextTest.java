/** Promises 23 to 25: bytes of the text, and wheels that are read from it. */
public final class TextTest {
    private static final Check check = new Check("TextTest");

    public static void main(String[] args) {
        appends();
        readsWheels();
        findsFaults();
        findsNumbersOutOfRange();
        findsFaultsOfSkips();
        endsWhereTheTextEnds();
        takesTheWheels();
        leavesNothingToLaterWheels();
        keepsWhatIsNoWheel();
        changesNothingByAFaultyText();
        check.end();
    }

    private static void write(SynodicWheels x, String text) {
        x.clearText();
        for (int k = 0; k < text.length(); k++) {
            x.append(text.charAt(k));
        }
    }

    private static void reads(String text, int due) {
        SynodicWheels x = new SynodicWheels();
        write(x, text);
        check.same("parse() of " + text, x.parse(), due);
        check.same("the wheels of " + text, x.value(1), due < 0 ? 0 : due);
        check.same("the text of " + text, x.clearText(), text.length());
    }

    private static void fault(String text, int position) {
        reads(text, -10 - position);
    }

    private static void appends() {
        SynodicWheels x = new SynodicWheels();
        check.argument("append(-1)", x, () -> x.append(-1));
        check.argument("append(128)", x, () -> x.append(128));
        check.same("append(0)", x.append(0), 1);
        check.same("append(127)", x.append(127), 2);
        for (int k = 2; k < 90; k++) {
            check.same("append the byte " + k, x.append('0'), k + 1);
        }
        check.state("append to 90 bytes", x, () -> x.append('0'));
        check.argument("append(128) to 90 bytes", x, () -> x.append(128));
        check.argument("append(-1) to 90 bytes", x, () -> x.append(-1));
        check.same("clearText()", x.clearText(), 90);
        check.same("clearText() again", x.clearText(), 0);
        check.same("append to the empty text", x.append('7'), 1);
        check.state("no call of these is undoable", x, () -> x.undo());
    }

    private static void readsWheels() {
        reads("", 0);
        reads("2,0;", 1);
        reads("2,1;", 1);
        reads("60,59;", 1);
        reads("02,00;", 1);
        reads("9,8;09,08;", 2);
        reads("2,0;3,1;4,2;5,3;6,4;", 5);
        reads("2,0;3,0@0,1+;", 2);
        reads("2,0;3,0@0,01-;", 2);
        reads("60,59;60,59@0,59+;60,59@1,59-;60,59@2,59+;60,59@3,59-;", 5);
        reads("2,0;2,0;2,0;2,0@2,1+;2,0@3,0-;", 5);
    }

    private static void findsFaults() {
        fault("x", 0);
        fault(";", 0);
        fault(",", 0);
        fault("@", 0);
        fault("-2,0;", 0);
        fault(" 5,0;", 0);
        fault("2", 1);
        fault("2,", 2);
        fault("2,0", 3);
        fault("20,19", 5);
        fault("2,0@", 4);
        fault("2;", 1);
        fault("2@", 1);
        fault("5 ,0;", 1);
        fault("2,;", 2);
        fault("2,,", 2);
        fault("2,-1;", 2);
        fault("2,0,", 3);
        fault("2,0+", 3);
        fault("2,0; ", 4);
        fault("2,0;;", 4);
        fault("2,0;3", 5);
        fault("002,0;", 2);
        fault("2,000;", 4);
        fault("2,0;3,1;4,2;5,3;6,4;7", 20);
        fault("2,0;3,1;4,2;5,3;6,4;7,0;", 20);
        fault("2,0;3,1;4,2;5,3;6,4;;", 20);
        fault("2,0;3,1;4,2;5,3;6,4", 19);
    }

    private static void findsNumbersOutOfRange() {
        fault("1", 0);
        fault("0", 0);
        fault("1,0;", 0);
        fault("1x", 0);
        fault("1;", 0);
        fault("00,0;", 0);
        fault("01,", 0);
        fault("61", 0);
        fault("61,0;", 0);
        fault("61@", 0);
        fault("99,99;", 0);
        fault("610", 2);
        fault("999,0;", 2);
        fault("100", 2);
        fault("5,5", 2);
        fault("5,5;", 2);
        fault("5,5@", 2);
        fault("5,4", 3);
        fault("5,05;", 2);
        fault("5,055", 4);
        fault("60,60;", 3);
        fault("60,99 ", 3);
        fault("2,0;2,2;", 6);
        fault("2,0;61,2;", 4);
    }

    private static void findsFaultsOfSkips() {
        fault("2,0@0,0+;", 4);
        fault("2,0@x", 4);
        fault("2,0@9", 4);
        fault("2,0;3,0@1,0+;", 8);
        fault("2,0;3,0@5,0+;", 8);
        fault("2,0;3,0@,0+;", 8);
        fault("2,0;3,0@", 8);
        fault("2,0;3,0@00,0+;", 9);
        fault("2,0;3,0@0;", 9);
        fault("2,0;3,0@0", 9);
        fault("2,0;3,0@0,+", 10);
        fault("2,0;3,0@0,", 10);
        fault("2,0;3,0@0,2+;", 10);
        fault("2,0;3,0@0,2", 10);
        fault("2,0;3,0@0,2;", 10);
        fault("2,0;3,0@0,02-;", 10);
        fault("2,0;3,0@0,022", 12);
        fault("2,0;3,0@0,001+;", 12);
        fault("2,0;3,0@0,1", 11);
        fault("2,0;3,0@0,1;", 11);
        fault("2,0;3,0@0,1*;", 11);
        fault("2,0;3,0@0,1+", 12);
        fault("2,0;3,0@0,1++", 12);
        fault("2,0;3,0@0,1+@", 12);
        fault("2,0;3,0@0,1-,", 12);
        fault("9,0;3,0@0,8+;4,0@1,3+;", 19);
        fault("2,0;2,0;2,0;2,0;2,0@4,1-;", 20);
        fault("2,0;2,0;2,0;2,0@3,1-;2,0@3,1-;", 16);
    }

    /** Bytes that were in the text before it was emptied do not count. */
    private static void endsWhereTheTextEnds() {
        String whole = "12,11;30,0@0,11+;";
        for (int length = whole.length(); length >= 0; length--) {
            SynodicWheels x = new SynodicWheels();
            write(x, whole);
            write(x, whole.substring(0, length));
            SynodicWheels fresh = new SynodicWheels();
            write(fresh, whole.substring(0, length));
            check.same("parse() of the first " + length + " bytes", x.parse(), fresh.parse());
        }
        SynodicWheels x = new SynodicWheels();
        write(x, whole);
        write(x, "1");
        check.same("parse() of 1", x.parse(), -10);
        write(x, whole);
        write(x, "12,11");
        check.same("parse() of 12,11", x.parse(), -15);
    }

    private static void takesTheWheels() {
        SynodicWheels x = new SynodicWheels();
        x.addWheel(8, 3);
        x.addWheel(8, 3);
        x.setSkip(1, 0, 7, -1);
        x.setWheel(1, 2, 5);
        write(x, "12,7;29,28@0,11-;60,0@1,28+;");
        check.same("parse()", x.parse(), 3);
        check.wheel("the first", x, 0, 12, 7, 0, -1, -1, 0, 7);
        check.wheel("the second", x, 1, 29, 28, 0, 0, 11, -1, 28);
        check.wheel("the third", x, 2, 60, 0, 0, 1, 28, 1, 0);
        write(x, "7,6;5,4;");
        check.same("parse() of fewer", x.parse(), 2);
        check.wheel("no skip is left", x, 1, 5, 4, 0, -1, -1, 0, 4);
        check.index("the third is gone", x, () -> x.wheel(2, 0));
        check.same("clearText()", x.clearText(), 8);
        check.same("parse() of no wheels", x.parse(), 0);
        check.same("no wheels", x.value(1), 0);
        check.same("undo()", x.undo(), 3);
        check.same("undo() brings them back", x.value(1), 2);
        check.same("undo()", x.undo(), 2);
        check.wheel("with their skips", x, 1, 29, 28, 0, 0, 11, -1, 28);
        check.same("undo()", x.undo(), 1);
        check.wheel("those of the beginning", x, 1, 8, 2, 5, 0, 7, -1, 3);
    }

    private static void leavesNothingToLaterWheels() {
        SynodicWheels x = new SynodicWheels();
        write(x, "7,6;5,4@0,3+;");
        x.parse();
        x.setWheel(1, 3, 2);
        write(x, "9,8;");
        check.same("parse() of one", x.parse(), 1);
        x.addWheel(6, 2);
        check.wheel("no mark and no skip is left", x, 1, 6, 2, 0, -1, -1, 0, 2);
    }

    private static void keepsWhatIsNoWheel() {
        SynodicWheels x = new SynodicWheels();
        x.addWheel(12, 0);
        x.addWheel(12, 0);
        x.setMoon(1, 0);
        x.setMarket(1, 540, 120, 3);
        x.setDay(2, true);
        x.setDay(4, true);
        x.pass(5);
        check.values("before", x, 5, 2, 1, 0, 1, 540, 120, 3, 2, 1, 1, 0, 1, 0);
        x.setMoon(1, 7);
        write(x, "6,5;4,3;");
        x.parse();
        check.values("behind", x, 5, 2, 0, 7, 0, 540, 120, 3, 0, 1, 1, 0, 0, 5);
        check.markets("none is due", x, 0, 0, 0);
        check.same("the text stays", x.append('9'), 9);
        check.same("parse() with one byte more", x.parse(), -10 - 9);
        x.undo();
        check.values("undone", x, 5, 2, 1, 7, 1, 540, 120, 3, 2, 1, 1, 0, 1, 0);
        check.same("the text stays by undo", x.clearText(), 9);
    }

    private static void changesNothingByAFaultyText() {
        SynodicWheels x = new SynodicWheels();
        x.addWheel(12, 7);
        x.addWheel(5, 2);
        x.setSkip(1, 0, 3, 1);
        write(x, "3,0;4,1@0,2+;5,0;6,0;7,7;");
        long before = x.digest();
        check.same("parse()", x.parse(), -10 - 23);
        check.same("digest()", x.digest(), before);
        check.wheel("the first", x, 0, 12, 7, 0, -1, -1, 0, 7);
        check.wheel("the second", x, 1, 5, 2, 0, 0, 3, 1, 2);
        check.same("nothing is saved", x.undo(), 2);
        check.wheel("the skip is undone", x, 1, 5, 2, 0, -1, -1, 0, 2);
    }
}
