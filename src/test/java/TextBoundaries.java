/** The sentences of the document's terms about the text, and those of the promises 23 to 25. */
final class TextBoundaries {
    private static final int MOST_BYTES = 90;
    private static final String DIGITS = "0123456789";

    /** Two wheels and a skip, and behind each of its first bytes those that can stand there. */
    private static final String WHOLE = "12,11;30,29@0,11+;";
    private static final String[] CAN_STAND = {DIGITS, DIGITS, ",", DIGITS, DIGITS + ";@", ";@", DIGITS, DIGITS + ",",
        ",", DIGITS, DIGITS + ";@", ";@", "0", ",", DIGITS, DIGITS + "+-", "+-", ";", DIGITS};

    private final Check check;

    TextBoundaries(Check check) {
        this.check = check;
    }

    void run() {
        atMostNinetyBytes();
        sequenceOfWheels();
        noSpaces();
        noWheels();
        firstByteThatCannotStand();
        digitTooMany();
        sixthWheel();
        driverThatIsNoWheelBefore();
        textThatEndsTooEarly();
        numberOutOfRange();
        outOfRangeFoundBehindIt();
        append();
        appendRange();
        clearText();
        parse();
        parseKeeps();
        parseAnswer();
    }

    private void reads(String text, int wheels) {
        check.same("parse() of " + text, Houses.parsed(text), wheels);
    }

    private void fault(String text, int position) {
        check.same("parse() of " + text, Houses.parsed(text), -10 - position);
    }

    private static SynodicWheels withText(String text) {
        SynodicWheels x = new SynodicWheels();
        Houses.write(x, text);
        return x;
    }

    private static SynodicWheels full() {
        return withText("2".repeat(MOST_BYTES));
    }

    private void atMostNinetyBytes() {
        check.sentence("Terms", "The text has at most 90 bytes.");
        SynodicWheels x = withText("2".repeat(MOST_BYTES - 1));
        check.same("the last byte", x.append('2'), MOST_BYTES);
        check.state("a byte more", x, () -> x.append('2'));
        check.same("the length", x.clearText(), MOST_BYTES);
        SynodicWheels longest = withText("60,59;60,59@0,59+;60,59@1,59-;60,59@2,59+;60,59@3,59-;");
        check.same("parse() of the longest text of wheels", longest.parse(), 5);
        for (int length = 55; length <= MOST_BYTES; length++) {
            longest.append('0');
        }
        check.same("parse() of 90 bytes", longest.parse(), -10 - 54);
    }

    private void sequenceOfWheels() {
        check.sentence("Terms", "It is a sequence of wheels, each terminated by a semicolon: its teeth (one or two digits)");
        SynodicWheels x = withText("2,0;09,08;9,8;60,59;10,09@3,00-;");
        check.same("parse()", x.parse(), 5);
        int[][] due = {{2, 0, 0, -1, -1, 0, 0}, {9, 8, 0, -1, -1, 0, 8}, {9, 8, 0, -1, -1, 0, 8},
            {60, 59, 0, -1, -1, 0, 59}, {10, 9, 0, 3, 0, -1, 9}};
        for (int k = 0; k < 5; k++) {
            check.wheel("of five", x, k, due[k]);
        }
        SynodicWheels y = withText("60,7;3,02@0,59+;02,1@1,2-;");
        check.same("parse() with skips", y.parse(), 3);
        check.wheel("a skip of +", y, 1, 3, 2, 0, 0, 59, 1, 2);
        check.wheel("a skip of -", y, 2, 2, 1, 0, 1, 2, -1, 1);
        SynodicWheels z = withText("2,0;2,0;2,0;2,0@2,01+;2,1@3,0-;");
        check.same("parse() with drivers 2 and 3", z.parse(), 5);
        check.wheel("driven by 2", z, 3, 2, 0, 0, 2, 1, 1, 0);
        check.wheel("driven by 3", z, 4, 2, 1, 0, 3, 0, -1, 1);
    }

    private void noSpaces() {
        check.sentence("Terms", "There are no spaces; there may be no wheels.");
        // Not behind the first digit alone: 1 is out of range there.
        for (int at = 0; at <= WHOLE.length(); at++) {
            if (at != 1) {
                fault(WHOLE.substring(0, at) + " " + WHOLE.substring(at), at);
            }
        }
        fault(" ", 0);
        fault("3 ,0;", 1);
    }

    private void noWheels() {
        reads("", 0);
        SynodicWheels x = Houses.rich();
        x.clearText();
        check.same("parse() of the empty text", x.parse(), 0);
        check.same("the wheels", x.value(1), 0);
    }

    private void firstByteThatCannotStand() {
        check.sentence("Terms", "The syntax error position is the index of the first byte that cannot stand where it stands");
        for (int at = 0; at <= WHOLE.length(); at++) {
            // Behind the 1 of 12 each byte that is no digit finds a number that is out of range.
            int position = at == 1 ? 0 : at;
            for (int b = 0; b <= 127; b++) {
                if (CAN_STAND[at].indexOf(b) < 0) {
                    fault(WHOLE.substring(0, at) + (char) b, position);
                    fault(WHOLE.substring(0, at) + (char) b + "!", position);
                }
            }
        }
    }

    private void digitTooMany() {
        fault("002,0;", 2);
        fault("123,0;", 2);
        fault("12,000;", 5);
        fault("12,111;", 5);
        fault("12,0;5,0@00,0+;", 10);
        fault("12,0;5,0@0,000+;", 13);
        fault("12,0;5,0@0,011-;", 13);
        // It is found before the number's range is looked at.
        fault("999,0;", 2);
        fault("610,0;", 2);
        fault("12,123;", 5);
        fault("12,0;5,0@0,123-;", 13);
        fault("000", 2);
    }

    private void sixthWheel() {
        String five = "2,0;3,1;4,2;5,3;6,4;";
        reads(five, 5);
        for (int b = 0; b <= 127; b++) {
            fault(five + (char) b, 20);
        }
        fault(five + "7,0;", 20);
        fault(five + "1,0;", 20);
    }

    private void driverThatIsNoWheelBefore() {
        StringBuilder before = new StringBuilder();
        for (int wheel = 0; wheel < 5; wheel++) {
            for (int driver = 0; driver <= 9; driver++) {
                String text = before + "7,6@" + driver;
                if (driver < wheel) {
                    reads(text + ",1+;", wheel + 1);
                } else {
                    fault(text + ",1+;", 4 * wheel + 4);
                    fault(text, 4 * wheel + 4);
                }
            }
            before.append("2,1;");
        }
    }

    private void textThatEndsTooEarly() {
        for (int length = 0; length <= WHOLE.length(); length++) {
            String text = WHOLE.substring(0, length);
            if (length == 0 || length == 6 || length == WHOLE.length()) {
                reads(text, length == 0 ? 0 : length == 6 ? 1 : 2);
            } else {
                // The text 1 ends behind a number that is out of range.
                fault(text, length == 1 ? 0 : length);
            }
        }
        fault("2", 1);
        fault("2,1", 3);
        fault("2,1;2,1@0,1", 11);
    }

    /** A number that begins at this place, with what stands before it. */
    private void outOfRange(String before, String number) {
        String text = before + number;
        fault(text, before.length());
        for (int b = 0; b <= 127; b++) {
            if (DIGITS.indexOf(b) < 0) {
                fault(text + (char) b, before.length());
            } else if (number.length() == 2) {
                fault(text + (char) b, before.length() + 2);
            }
        }
    }

    private void numberOutOfRange() {
        check.sentence("Terms", "For a number that is out of its range it is the index of its first digit");
        for (String teeth : new String[] {"0", "1", "00", "01", "61", "62", "99"}) {
            outOfRange("", teeth);
            outOfRange("5,4;", teeth);
        }
        for (String position : new String[] {"5", "6", "9", "05", "09", "10", "99"}) {
            outOfRange("5,", position);
            outOfRange("60,59;5,", position);
        }
        outOfRange("60,", "60");
        outOfRange("2,", "2");
        for (String tooth : new String[] {"5", "9", "05", "10", "59", "99"}) {
            outOfRange("60,59;5,4;12,11@1,", tooth);
        }
        outOfRange("60,59;5,4;12,11@0,", "60");
        reads("2,0;60,1;", 2);
        reads("02,0;60,59;", 2);
        reads("60,59;5,4;12,11@1,4+;12,11@0,59-;", 4);
    }

    private void outOfRangeFoundBehindIt() {
        // A digit behind it can still bring it into its range, or out of it.
        reads("12,1;", 1);
        reads("10,0;", 1);
        reads("03,02;", 1);
        fault("3,21;", 2);
        fault("6", 1);
        fault("61", 0);
        fault("60", 2);
        fault("3,2", 3);
        fault("3,29", 2);
        // What stands behind it is not looked at.
        fault("1,9@@", 0);
        fault("1;;", 0);
        fault("61 ,0;", 0);
    }

    private void append() {
        check.sentence("Promise 23", "Appends a byte to the text.");
        check.sentence("Promise 23", "Returns the new length of the text.");
        SynodicWheels x = new SynodicWheels();
        String text = "12,7;";
        for (int k = 0; k < text.length(); k++) {
            check.same("append()", x.append(text.charAt(k)), k + 1);
        }
        check.same("parse() of them", x.parse(), 1);
        check.wheel("in their order", x, 0, 12, 7);
        for (int length = 6; length <= MOST_BYTES; length++) {
            check.same("append()", x.append(0), length);
        }
        SynodicWheels y = new SynodicWheels();
        y.append('2');
        check.state("it is not undoable", y, () -> y.undo());
    }

    private void appendRange() {
        check.sentence("Promise 23", "`value`: the byte, 0 to 127");
        check.range("value", 0, 127, IllegalArgumentException.class, SynodicWheels::new, (x, value) -> x.append(value));
        check.sentence("Promise 23", "Throws `IllegalArgumentException` if value is out of range");
        for (int value : new int[] {-1, 128, 255, 256 + '2'}) {
            SynodicWheels x = withText("2,0");
            check.argument("append(" + value + ")", x, () -> x.append(value));
            check.same("the text behind it", x.append(';'), 4);
            check.same("parse() behind it", x.parse(), 1);
            SynodicWheels y = full();
            check.argument("append(" + value + ") to 90 bytes", y, () -> y.append(value));
        }
        check.sentence("Promise 23", "Throws `IllegalStateException` if the text has 90 bytes");
        SynodicWheels x = full();
        for (int value : new int[] {0, '2', 127}) {
            check.state("append(" + value + ") to 90 bytes", x, () -> x.append(value));
        }
        x.clearText();
        check.same("append() to the emptied text", x.append('2'), 1);
    }

    private void clearText() {
        check.sentence("Promise 24", "Empties the text.");
        SynodicWheels x = withText("22,0;33,11;");
        check.same("parse() of two", x.parse(), 2);
        x.clearText();
        check.same("parse() of the empty text", x.parse(), 0);
        x.append('6');
        check.same("nothing of it is left behind 6", x.parse(), -11);
        Houses.write(x, "0,1");
        check.same("nothing of it is left behind 60,1", x.parse(), -14);
        x.append(';');
        check.same("parse() of another text", x.parse(), 1);
        x.clearText();
        check.sentence("Promise 24", "Returns the length that it had.");
        x.append('6');
        check.same("1 byte", x.clearText(), 1);
        check.same("no byte", x.clearText(), 0);
        check.same("90 bytes", full().clearText(), MOST_BYTES);
        SynodicWheels y = withText("2");
        y.clearText();
        check.state("it is not undoable", y, () -> y.undo());
    }

    private void parse() {
        check.sentence("Promise 25", "Makes the wheels those of the text, with marks of 0, moon and market wheel 0");
        SynodicWheels x = Houses.rich();
        x.setSkip(2, 1, 0, 1);
        x.setWheel(0, 3, 2);
        x.setWheel(1, 3, 4);
        x.setMarket(4, Houses.WET, 600, 5);
        x.setDay(0, true);
        x.setDay(1, true);
        x.setMoon(4, 33);
        x.pass(2);
        int held = x.value(9);
        int putOff = x.value(10);
        int lost = x.value(11);
        check.isTrue("one is put off to today", x.value(12) > 0);
        x.append(';');
        check.same("parse()", x.parse(), 2);
        check.values("behind", x, 38, 2, 0, 33, 0, Houses.WET, 600, 5, 0, held, putOff, lost, 0, 38);
        check.wheel("the first", x, 0, 5, 1, 0, -1, -1, 0, 1);
        check.wheel("the second", x, 1, 6, 2, 0, 0, 1, -1, 2);
        check.markets("none is due", x, 0, 0, 0);
        check.index("the third is gone", x, () -> x.wheel(2, 0));
        x.addWheel(7, 3);
        check.wheel("a new third", x, 2, 7, 3, 0, -1, -1, 0, 3);
        x.clearText();
        Houses.write(x, "5,1;6,2;");
        check.same("parse() without a skip", x.parse(), 2);
        check.wheel("the second without its skip", x, 1, 6, 2, 0, -1, -1, 0, 2);
    }

    private void parseKeeps() {
        check.sentence("Promise 25", "The text stays as it is.");
        SynodicWheels x = withText("5,1;6,2@0,1-;");
        x.parse();
        check.same("parse() again", x.parse(), 2);
        check.same("its length", x.clearText(), 13);
        SynodicWheels y = withText("5,1;6,2@0,1");
        y.parse();
        check.same("a faulty text", y.append('-'), 12);
        check.sentence("Promise 25", "Undoable, if there is no syntax error.");
        check.undone("parse()", TextBoundaries::richAndWhole, SynodicWheels::parse);
        check.undone("parse() of no wheels", TextBoundaries::richAndWhole, z -> {
            z.clearText();
            z.parse();
        });
        SynodicWheels faulty = withText("5,1");
        faulty.parse();
        check.state("parse() with a fault", faulty, () -> faulty.undo());
        SynodicWheels twice = withText("5,1;");
        twice.parse();
        twice.parse();
        check.same("parse() that changes nothing", twice.undo(), 1);
    }

    private static SynodicWheels richAndWhole() {
        SynodicWheels x = Houses.rich();
        x.append(';');
        return x;
    }

    private void parseAnswer() {
        check.sentence("Promise 25", "Returns the number of wheels; -10 minus the syntax error position");
        String text = "";
        for (int count = 0; count <= 5; count++) {
            reads(text, count);
            fault(text + "x", text.length());
            text += (count + 2) + "," + count + ";";
        }
        fault("60,59;60,59@0,59+;60,59@1,59-;60,59@2,59+;60,59@3,59", 52);
        SynodicWheels x = Houses.rich();
        String before = Houses.told(x);
        check.same("parse() of a text without its end", x.parse(), -10 - 12);
        check.isTrue("that nothing changes by a faulty text", Houses.told(x).equals(before));
    }
}
