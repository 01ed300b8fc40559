import java.io.IOException;
import java.nio.file.Files;
import java.nio.file.Path;
import java.util.ArrayList;
import java.util.List;
import java.util.TreeSet;

/**
 * The sentences of ../shared/DOC.md that name a boundary. A test says the sentence that it is about, and at the end
 * each of them must have been said: so none is without a test, and a test whose sentence is gone is found.
 */
final class Sentences {
    private static final Path DOCUMENT = Path.of("..", "shared", "DOC.md");
    /** The sentences of the terms that only tell what a word means, or what others tell more exactly. */
    private static final String[] NO_BOUNDARY = {"Borrowers reserve consecutive hours", "The simulator is set up by a text",
        "Every change can be undone, and two states", "All numbers are integers", "A loan belongs to a borrower.",
        "The street of a loan is", "The bureau refuses to grant a loan for the first", "When an hour passes, these things",
        "Streets and borrowers are processed", "\"permit\" grants a permit for a street"};

    private static final List<List<String>> SECTIONS = sections();
    private static final TreeSet<String> SAID = new TreeSet<>();
    private static int section = 0;
    private static String saying = "";

    private Sentences() {
    }

    /** The terms are section 0, a promise is the section of its number. */
    private static List<List<String>> sections() {
        List<List<String>> sections = new ArrayList<>();
        for (int i = 0; i <= 56; i++) {
            sections.add(new ArrayList<>());
        }
        int at = -1;
        for (String line : lines()) {
            if (line.startsWith("## Promise ")) {
                at = Integer.parseInt(line.substring(11, line.indexOf(':')));
            } else if (line.startsWith("## Terms")) {
                at = 0;
            } else if (line.startsWith("The constants:") || line.startsWith("## ")) {
                at = -1;
            } else if (at == 0) {
                for (String sentence : line.split("(?<=[.:])(?<!^\\d[.]) (?=[A-Z\"])")) {
                    sections.get(0).add(sentence);
                }
            } else if (at > 0) {
                sections.get(at).add(line);
            }
        }
        return sections;
    }

    private static List<String> lines() {
        try {
            return Files.readAllLines(DOCUMENT);
        } catch (IOException e) {
            throw new IllegalStateException("the document cannot be read", e);
        }
    }

    static void promise(int number) {
        section = number;
    }

    /** The words must stand in the section; the answers that follow are about them. */
    static void say(String words) {
        saying = words;
        boolean found = false;
        for (String sentence : SECTIONS.get(section)) {
            if (sentence.contains(words)) {
                found = true;
                SAID.add(section + " " + sentence);
            }
        }
        Check.same("the document says '" + words + "' in " + section, true, found);
    }

    static void same(String what, Object due, Object got) {
        Check.same("[" + section + ": " + saying + "] " + what, due, got);
    }

    static void throwing(String what, Class<?> due, Check.Call call) {
        Check.throwing("[" + section + ": " + saying + "] " + what, due, call);
    }

    static void allSaid() {
        for (int i = 0; i < SECTIONS.size(); i++) {
            for (String sentence : SECTIONS.get(i)) {
                if (i == 0 ? boundaryInTerms(sentence) : boundaryInPromise(sentence)) {
                    Check.same("said in " + i + ": " + sentence, true, SAID.contains(i + " " + sentence));
                }
            }
        }
    }

    private static boolean boundaryInTerms(String sentence) {
        for (String none : NO_BOUNDARY) {
            if (sentence.contains(none)) {
                return false;
            }
        }
        return sentence.endsWith(".");
    }

    private static boolean boundaryInPromise(String line) {
        return line.startsWith("Returns ") || line.startsWith("Throws ") || line.startsWith("- ") && line.matches(".*\\d.*");
    }
}
