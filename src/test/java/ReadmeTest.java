import java.io.IOException;
import java.nio.charset.StandardCharsets;
import java.nio.file.Files;
import java.nio.file.Path;
import java.util.List;

/** The answers that README.md tells behind its calls are those that the class gives. */
public final class ReadmeTest {
    private static final Check check = new Check("ReadmeTest");

    private final List<String> lines;
    private int next;

    private ReadmeTest() throws IOException {
        lines = Files.readAllLines(Path.of("README.md"), StandardCharsets.UTF_8);
    }

    public static void main(String[] args) throws IOException {
        ReadmeTest readme = new ReadmeTest();
        SynodicWheels x = new SynodicWheels();
        readme.firstCalls(x);
        readme.calls(x);
        readme.text(x);
        readme.tellsNoMore();
        check.end();
    }

    /** The next line of the file that has a call with its answer must be this one, with this answer. */
    private void told(String call, long answer) {
        while (next < lines.size() && !isTold(lines.get(next))) {
            next++;
        }
        if (next == lines.size()) {
            check.isTrue("that README.md tells " + call, false);
            return;
        }
        String[] parts = lines.get(next).split(" +// ", 2);
        next++;
        check.isTrue("README.md tells " + parts[0] + " where " + call + " is due:", parts[0].equals(call));
        check.isTrue("README.md tells " + parts[1] + " of " + call + ", which answers " + answer + ":",
            parts[1].startsWith(answer + ":"));
    }

    private static boolean isTold(String line) {
        return line.startsWith("x.") && line.contains(" // ");
    }

    private void tellsNoMore() {
        for (String line : lines.subList(next, lines.size())) {
            check.isTrue("that this is the last call that is told, not " + line + ",", !isTold(line));
        }
    }

    private void firstCalls(SynodicWheels x) {
        told("x.addWheel(29, 3);", x.addWheel(29, 3));
        told("x.addWheel(7, 0);", x.addWheel(7, 0));
        told("x.setMoon(0, 100);", x.setMoon(0, 100));
        told("x.setMarket(1, 540, 120, 2);", x.setMarket(1, 540, 120, 2));
        told("x.setDay(2, true);", x.setDay(2, true));
    }

    private void calls(SynodicWheels x) {
        told("x.highWater(0);", x.highWater(0));
        told("x.market(0);", x.market(0));
        told("x.nextMarket();", x.nextMarket());
        told("x.setSkip(1, 0, 5, -1);", x.setSkip(1, 0, 5, -1));
        told("x.nextMarket();", x.nextMarket());
        told("x.errors(10);", x.errors(10));
        told("x.byRemainders(3);", x.byRemainders(3));
        told("x.nextMeeting(3);", x.nextMeeting(3));
        told("x.pass(10);", x.pass(10));
        told("x.value(0);", x.value(0));
        told("x.undo();", x.undo());
    }

    private void text(SynodicWheels x) {
        String text = "29,3;7,0@0,5-;";
        check.isTrue("that README.md reads " + text, lines.contains("for (char c : \"" + text + "\".toCharArray()) {"));
        Houses.write(x, text);
        told("x.parse();", x.parse());
        told("x.wheel(1, 3);", x.wheel(1, 3));
    }
}
