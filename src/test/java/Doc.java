import java.io.IOException;
import java.nio.file.Files;
import java.nio.file.Path;
import java.util.ArrayList;
import java.util.List;
import java.util.Map;
import java.util.TreeMap;

/** The document's own words that tests hold: each must stand there, and no words of it may be left that none holds. */
final class Doc {
    static final int WHAT_IT_IS = -1;
    static final int TERMS = 0;
    static final int PROMISES = 45;

    private static final int ELSEWHERE = -2;
    private static final Map<String, Integer> NAMES = Map.of("What it is", WHAT_IT_IS, "Terms", TERMS);
    private static final Map<Integer, List<String>> HELD = new TreeMap<>();

    private Doc() {
    }

    /** What follows holds these words of a promise (or of the TERMS). */
    static void says(int promise, String words) {
        HELD.computeIfAbsent(promise, p -> new ArrayList<>()).add(words);
        Check.about(name(promise) + ", \"" + words + "\"");
    }

    private static String name(int promise) {
        if (promise == WHAT_IT_IS) {
            return "what it is";
        }
        return promise == TERMS ? "terms" : "promise " + promise;
    }

    /** Compares the words held with the document; where it is not at hand, that alone is left out. */
    static void compare() throws IOException {
        String shared = System.getenv("SHARED");
        Path file = Path.of(shared == null ? "../shared" : shared, "DOC.md");
        if (!Files.exists(file)) {
            System.out.println("no document at " + file + ": its words are not compared");
            return;
        }
        Map<Integer, String> document = sections(Files.readAllLines(file));
        for (int promise = WHAT_IT_IS; promise <= PROMISES; promise++) {
            Check.about(name(promise));
            compare(document.getOrDefault(promise, ""), HELD.getOrDefault(promise, List.of()), promise >= TERMS);
        }
    }

    private static Map<Integer, String> sections(List<String> lines) {
        Map<Integer, String> sections = new TreeMap<>();
        int promise = ELSEWHERE;
        for (String line : lines) {
            if (line.startsWith("## Promise ")) {
                promise = Integer.parseInt(line.substring(11, line.indexOf(':')));
            } else if (line.startsWith("## ")) {
                promise = NAMES.getOrDefault(line.substring(3), ELSEWHERE);
            } else if (promise != ELSEWHERE && !line.startsWith("```") && !line.startsWith("Ahead of the calls")) {
                // ahead of the words stands the call itself, or the number of the term
                String words = line.replaceFirst("^`[^`]*`:|^\\d\\.", "");
                sections.merge(promise, words, (a, b) -> (a + " " + b).replaceAll("\\s+", " "));
            }
        }
        return sections;
    }

    private static void compare(String section, List<String> held, boolean whole) {
        boolean[] has = new boolean[section.length()];
        for (String words : held) {
            int at = section.indexOf(words);
            if (at < 0) {
                Check.fail("the document does not say: " + words);
            }
            for (; at >= 0; at = section.indexOf(words, at + 1)) {
                java.util.Arrays.fill(has, at, at + words.length(), true);
            }
        }
        StringBuilder left = new StringBuilder();
        for (int i = 0; i < has.length; i++) {
            left.append(has[i] ? '\n' : section.charAt(i));
        }
        for (String words : left.toString().split("\n")) {
            if (whole && words.matches(".*[A-Za-z0-9].*")) {
                Check.fail("no test holds: " + words);
            }
        }
        if (section.isEmpty()) {
            Check.fail("the document does not have it");
        }
    }
}
