import java.io.IOException;
import java.io.UncheckedIOException;
import java.nio.file.Files;
import java.nio.file.Path;
import java.util.ArrayList;
import java.util.LinkedHashMap;
import java.util.List;
import java.util.Map;

/**
 * The sentences of some of the document's sections. Each test says which of them, or which part of one, it is about;
 * a sentence that is left without a test counts as a wrong answer, and so does a test about words that the document
 * does not say.
 */
final class Sentences {
    private static final Path DOCUMENT = Path.of("../shared/DOC.md");
    // Lines that say nothing a call could answer: what a parameter stands for, the frame of a block, the order of the
    // face (FaceTest), and what it is all about.
    private static final String[] PASSED_OVER = {"- `", "```", "Ahead of the calls", "A machine that measures",
        "Sticks throw shadows"};

    private final Check check;
    private final Map<String, List<String>> untested = new LinkedHashMap<>();
    private String section;

    Sentences(Check check, String... sections) {
        this.check = check;
        for (String name : sections) {
            untested.put(name, linesUnder(name));
        }
    }

    /** The sentences of the promises from the first to the last. */
    Sentences(Check check, int first, int last) {
        this(check);
        for (int promise = first; promise <= last; promise++) {
            untested.put("Promise " + promise, linesUnder("Promise " + promise));
        }
    }

    private static List<String> linesUnder(String section) {
        List<String> lines = new ArrayList<>();
        boolean inside = false;
        for (String line : documentLines()) {
            if (line.startsWith("## ")) {
                inside = line.equals("## " + section) || line.startsWith("## " + section + ": ");
            } else if (inside) {
                lines.add(withoutSignature(line));
            }
        }
        lines.removeIf(Sentences::isPassedOver);
        return lines;
    }

    private static List<String> documentLines() {
        try {
            return Files.readAllLines(DOCUMENT);
        } catch (IOException e) {
            throw new UncheckedIOException(e);
        }
    }

    private static String withoutSignature(String line) {
        return line.replaceFirst("^`[^`]*`: ", "");
    }

    private static boolean isPassedOver(String line) {
        for (String start : PASSED_OVER) {
            if (line.startsWith(start)) {
                return true;
            }
        }
        return line.isBlank();
    }

    void under(String section) {
        this.section = section;
    }

    void underPromise(int promise) {
        under("Promise " + promise);
    }

    /** The document says these words in the section, and this is the test of them. */
    void says(String words, Runnable test) {
        check.about(section + ", \"" + words + "\"");
        check.same("said by the document", claim(words), true);
        int before = check.made();
        test.run();
        check.same("tested", check.made() > before, true);
    }

    private boolean claim(String words) {
        List<String> lines = untested.get(section);
        for (int i = 0; i < lines.size(); i++) {
            int at = lines.get(i).indexOf(words);
            if (at >= 0) {
                // A sign that is in no words keeps what stands before and behind apart.
                lines.set(i, lines.get(i).substring(0, at) + "|" + lines.get(i).substring(at + words.length()));
                return true;
            }
        }
        return false;
    }

    void end() {
        untested.forEach((name, lines) -> {
            check.about(name);
            for (String line : lines) {
                check.same("left without a test", line.replaceAll("[^A-Za-z0-9]+", " ").trim(), "");
            }
        });
        check.end();
    }
}
