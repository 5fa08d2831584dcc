import java.io.IOException;
import java.nio.file.Files;
import java.nio.file.Path;
import java.util.LinkedHashMap;
import java.util.Map;

/**
 * The sentences of the document, section by section: 0 is "Terms", the others are the promises. A test says the
 * sentence that it is for; in the end every word of these sections must have been said by one.
 */
final class Sentences {
    private static final Path DOC = Path.of("../shared/DOC.md");
    /** Of each section what no test has said yet; empty if the document is not there. */
    private static final Map<Integer, String> LEFT = read();

    private static int checkedBefore;
    private static String present = "";

    /** The checks that follow, up to the next sentence, are for this one. */
    static void says(int section, String sentence) {
        endPresent();
        present = section + ": " + sentence;
        Due.about(present);
        if (LEFT.isEmpty()) {
            return;
        }
        String left = LEFT.getOrDefault(section, "");
        if (left.contains(sentence)) {
            LEFT.put(section, left.replace(sentence, " | "));
        } else {
            Due.tell("the document does not say (or a test has said) " + present);
        }
    }

    /** Nothing but signatures and signs is left. */
    static void allSaid() {
        endPresent();
        Due.about("");
        if (LEFT.isEmpty()) {
            System.out.println("there is no " + DOC + " to compare the sentences with");
        }
        LEFT.forEach((section, left) -> {
            if (left.chars().anyMatch(Character::isLetterOrDigit)) {
                Due.tell("no test is for this of section " + section + ": " + left);
            }
        });
    }

    private static void endPresent() {
        if (!present.isEmpty() && Due.checked() == checkedBefore) {
            Due.tell("nothing was checked for " + present);
        }
        checkedBefore = Due.checked();
        present = "";
    }

    private static Map<Integer, String> read() {
        Map<Integer, String> sections = new LinkedHashMap<>();
        if (!Files.exists(DOC)) {
            return sections;
        }
        int section = -1;
        try {
            for (String line : Files.readAllLines(DOC)) {
                if (line.startsWith("## ")) {
                    section = sectionOf(line);
                } else if (section >= 0 && isPromised(line)) {
                    String sentences = section == 0 ? line : line.replaceFirst("^`[^`]*`: ", "");
                    sections.merge(section, sentences, (before, more) -> before + " | " + more);
                }
            }
        } catch (IOException e) {
            Due.tell("the document can't be read: " + e);
        }
        return sections;
    }

    private static int sectionOf(String heading) {
        if (heading.equals("## Terms")) {
            return 0;
        }
        return heading.startsWith("## Promise ") ? Integer.parseInt(heading.substring(11).split(":")[0]) : -1;
    }

    private static boolean isPromised(String line) {
        return !line.startsWith("#") && !line.startsWith("Ahead of the calls ");
    }

    private Sentences() {
    }
}
