import java.io.IOException;
import java.io.UncheckedIOException;
import java.nio.file.Files;
import java.nio.file.Path;
import java.util.ArrayList;
import java.util.Arrays;
import java.util.LinkedHashMap;
import java.util.List;
import java.util.Map;
import java.util.Set;

/** The words of the document, section by section, and which of them edges have quoted so far. */
final class Document {
    static final String WHAT_IT_IS = "What it is";
    static final String FACE = "The public face";
    static final String TERMS = "Terms";
    static final int PROMISES = 18;

    private static final Path FILE = Path.of("..", "shared", "DOC.md");
    // What stands between the parts of a quote where words are left out; two dots are the document's own.
    private static final String GAP = " ... ";
    // Words that join others and say nothing alone.
    private static final Set<String> JOINING = Set.of("and", "or");
    // It leaves open what a test could look at.
    private static final String FREE = "; what later calls answer is free";
    private static final Map<String, Section> SECTIONS = read();

    private static final class Section {
        final StringBuilder text = new StringBuilder();
        boolean[] quoted = {};
    }

    private Document() {
    }

    static String promise(int number) {
        return "promise " + number;
    }

    /** Its sections whose words are to be tested: the face is FaceTest's, and what is not promised is free. */
    static List<String> sections() {
        List<String> names = new ArrayList<>(List.of(WHAT_IT_IS, TERMS));
        for (int number = 1; number <= PROMISES; number++) {
            names.add(promise(number));
        }
        return names;
    }

    /** Tells whether the section has these words; a gap stands for words between them. */
    static boolean quote(String section, String words) {
        if (!isThere()) {
            return true;
        }
        Section found = section(section);
        int from = 0;
        for (String part : words.split(GAP.replace(".", "\\."))) {
            int at = found.text.indexOf(part, from);
            if (at < 0) {
                return false;
            }
            from = at + part.length();
            Arrays.fill(found.quoted, at, from, true);
        }
        return true;
    }

    /** The words of a section that no edge has quoted. */
    static String notQuoted(String section) {
        if (!isThere()) {
            return "";
        }
        Section found = section(section);
        StringBuilder rest = new StringBuilder();
        int at = 0;
        for (String word : found.text.toString().split(" ")) {
            String letters = word.replaceAll("^\\W+(?=\\w)|(?<=\\w)\\W+$", "");
            int start = at + Math.max(0, word.indexOf(letters));
            if (!allQuoted(found, start, start + letters.length()) && !JOINING.contains(letters)) {
                rest.append(word).append(' ');
            }
            at += word.length() + 1;
        }
        return rest.toString().trim();
    }

    /** All words of a section, in one line. */
    static String text(String section) {
        return section(section).text.toString();
    }

    /** Without the document the edges are still looked at, but their words are not. */
    static boolean isThere() {
        return !SECTIONS.isEmpty();
    }

    private static Section section(String name) {
        Section found = SECTIONS.get(name);
        if (found == null) {
            throw new IllegalArgumentException("the document has no section " + name);
        }
        return found;
    }

    private static boolean allQuoted(Section section, int from, int to) {
        for (int i = from; i < to; i++) {
            if (!section.quoted[i]) {
                return false;
            }
        }
        return true;
    }

    private static Map<String, Section> read() {
        Map<String, Section> sections = new LinkedHashMap<>();
        if (!Files.exists(FILE)) {
            System.out.println("there is no " + FILE + ": words of the document are not compared");
            return sections;
        }
        Section current = new Section();
        for (String line : lines()) {
            if (line.startsWith("#")) {
                current = new Section();
                sections.put(line.replaceAll("^#+ ", "").replaceAll("^Promise (\\d+):.*$", "promise $1"), current);
            } else if (!line.startsWith("```")) {
                // A promise begins with its signature, which is the face's.
                add(current.text, line.replaceAll("^`[^`]*`: ", ""));
            }
        }
        for (Section section : sections.values()) {
            section.quoted = new boolean[section.text.length()];
        }
        return sections;
    }

    private static void add(StringBuilder text, String line) {
        String words = line.replace(FREE, "").trim().replaceAll("\\s+", " ");
        if (!words.isEmpty()) {
            text.append(text.length() == 0 ? "" : " ").append(words);
        }
    }

    private static List<String> lines() {
        try {
            return Files.readAllLines(FILE);
        } catch (IOException e) {
            throw new UncheckedIOException(e);
        }
    }
}
