import java.util.List;

/** Reads a text sign by sign, as an automaton: in each state it is told which signs can stand there. */
final class ModelText {
    private ModelText() {
    }

    /** Answers the syntax error position, or -1; the wheels are added to the list. */
    static int read(String text, List<Model.Wheel> wheels) {
        String state = "start";
        int first = 0;
        int number = 0;
        Model.Wheel w = null;
        for (int i = 0; i <= text.length(); i++) {
            boolean end = i == text.length();
            char c = end ? '\0' : text.charAt(i);
            boolean digit = !end && c >= '0' && c <= '9';
            if (state.endsWith("1") && digit) {
                number = 10 * number + c - '0';
                state = state.replace("1", "2");
                continue;
            }
            if (state.endsWith("0")) {
                if (!digit) {
                    return i;
                }
                first = i;
                number = c - '0';
                state = state.replace("0", "1");
                continue;
            }
            if (state.endsWith("1") || state.endsWith("2")) {
                if (digit) {
                    return i;
                }
                int low = state.startsWith("teeth") ? 2 : 0;
                int high = state.startsWith("teeth") ? 60 : state.startsWith("position") ? w.teeth - 1
                    : wheels.get(w.driver).teeth - 1;
                if (number < low || number > high) {
                    return first;
                }
            }
            if (end) {
                return state.equals("start") ? -1 : i;
            }
            switch (state) {
                case "start":
                    if (!digit || wheels.size() == 5) {
                        return i;
                    }
                    w = new Model.Wheel();
                    first = i;
                    number = c - '0';
                    state = "teeth1";
                    break;
                case "teeth1":
                case "teeth2":
                    if (c != ',') {
                        return i;
                    }
                    w.teeth = number;
                    state = "position0";
                    break;
                case "position1":
                case "position2":
                    if (c != ';' && c != '@') {
                        return i;
                    }
                    w.position = number;
                    w.printed = number;
                    if (c == ';') {
                        wheels.add(w);
                    }
                    state = c == ';' ? "start" : "driver";
                    break;
                case "driver":
                    if (!digit || c - '0' >= wheels.size()) {
                        return i;
                    }
                    w.driver = c - '0';
                    state = "comma";
                    break;
                case "comma":
                    if (c != ',') {
                        return i;
                    }
                    state = "tooth0";
                    break;
                case "tooth1":
                case "tooth2":
                    if (c != '+' && c != '-') {
                        return i;
                    }
                    w.tooth = number;
                    w.extra = c == '+' ? 1 : -1;
                    state = "close";
                    break;
                case "close":
                    if (c != ';') {
                        return i;
                    }
                    wheels.add(w);
                    state = "start";
                    break;
                default:
                    throw new AssertionError(state);
            }
        }
        throw new AssertionError();
    }
}
