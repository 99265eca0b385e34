import java.io.IOException;
import java.io.UncheckedIOException;
import java.nio.charset.StandardCharsets;
import java.nio.file.Files;
import java.nio.file.Path;
import java.util.ArrayList;
import java.util.List;

/** The sentences of ../shared/DOC.md, section by section, so that a test can name the one that it is about. */
final class Document {
    private static final Path PLACE = Path.of("../shared/DOC.md");

    /** A paragraph that only lists what stands in the code's comments. */
    private static final String OF_THE_INTERFACE = "Ahead of the calls ";

    private static final class Sentence {
        private final String section;
        private final String words;
        private boolean tested;

        private Sentence(String section, String words) {
            this.section = section;
            this.words = words;
        }
    }

    private final List<Sentence> sentences = new ArrayList<>();

    Document() {
        String section = "";
        for (String line : lines()) {
            if (line.startsWith("## ")) {
                section = line.substring(3).split(":")[0];
            } else {
                addLine(section, line);
            }
        }
    }

    private static List<String> lines() {
        try {
            return Files.readAllLines(PLACE, StandardCharsets.UTF_8);
        } catch (IOException e) {
            throw new UncheckedIOException(e);
        }
    }

    private void addLine(String section, String line) {
        if (line.isEmpty() || line.startsWith(OF_THE_INTERFACE)) {
            return;
        }
        // Behind a full stop, a semicolon or a colon, if a new sentence begins there.
        for (String words : line.replaceFirst("^- ", "").split("(?<=[.;:]\\)?) (?=[A-Z(])")) {
            boolean isTitle = words.endsWith("`:") || words.matches("[A-Z][a-z]+\\.");
            if (!isTitle || words.equals("Undoable.")) {
                sentences.add(new Sentence(section, words));
            }
        }
    }

    /** Marks a sentence as tested; false if the section has none that begins with these words. */
    boolean test(String section, String beginning) {
        boolean found = false;
        for (Sentence s : sentences) {
            if (s.section.equals(section) && s.words.startsWith(beginning)) {
                s.tested = true;
                found = true;
            }
        }
        return found;
    }

    /** The sentences of a section that no test has named. */
    List<String> untested(String section) {
        List<String> left = new ArrayList<>();
        for (Sentence s : sentences) {
            if (s.section.equals(section) && !s.tested) {
                left.add(s.words);
            }
        }
        return left;
    }
}
