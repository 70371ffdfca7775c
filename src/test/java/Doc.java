import java.io.IOException;
import java.nio.file.Files;
import java.nio.file.Path;
import java.util.Arrays;
import java.util.HashSet;
import java.util.LinkedHashMap;
import java.util.Map;
import java.util.Set;

/** The document by its sections: a test names the words that it holds, and in the end none are left over. */
final class Doc {
    private static final Path DOCUMENT = Path.of("../shared/DOC.md");
    private static final int PROMISES = 65;
    private static final String TERMS = "Terms";
    private static final String LIFE = "What it is";
    /** Words of the Terms that are only the name of what follows. */
    private static final String[] HEADINGS = {"THE LANE", "==== 2. A ROUND", "==== 3. WHAT COMES OF IT", "REFUSALS"};

    private static final Map<String, String> TEXTS = new LinkedHashMap<>();
    private static final Map<String, boolean[]> HELD = new LinkedHashMap<>();
    private static final Set<String> NAMED = new HashSet<>();

    private Doc() {
    }

    static void read() throws IOException {
        for (String part : Files.readString(DOCUMENT).split("(?m)^## ")) {
            int end = part.indexOf('\n');
            String title = part.substring(0, end).replaceAll(":.*", "");
            String text = part.substring(end).replaceAll("(?m)^```.*$", "").replaceAll("\\s+", " ").trim();
            TEXTS.put(title, text.replaceAll("^`[^`]*`: ", ""));
            HELD.put(title, new boolean[TEXTS.get(title).length()]);
        }
        for (String heading : HEADINGS) {
            mark(TERMS, heading);
        }
    }

    static void promise(int number, String words, Runnable test) {
        String section = "Promise " + number;
        hold(section, section, words, test);
    }

    /** A sentence of the Terms, with the promises by whose calls it is looked at. */
    static void terms(String promises, String words, Runnable test) {
        hold(TERMS, "Promises " + promises + " by the Terms", words, test);
    }

    static void life(String words, Runnable test) {
        hold(LIFE, "All promises", words, test);
    }

    private static void hold(String section, String label, String words, Runnable test) {
        Check.heading(label + ", \"" + words + "\": ");
        Check.must(NAMED.add(section + words), "another test holds the same words");
        Check.must(mark(section, words), "the document has no such words");
        int before = Check.checked();
        test.run();
        Check.must(Check.checked() > before, "nothing was looked at");
        Check.heading("");
    }

    private static boolean mark(String section, String words) {
        String text = TEXTS.getOrDefault(section, "");
        int at = text.indexOf(words);
        boolean found = at >= 0;
        while (at >= 0) {
            Arrays.fill(HELD.get(section), at, at + words.length(), true);
            at = text.indexOf(words, at + words.length());
        }
        return found;
    }

    /** Each word of the Terms and of the promises stands in the words of a test. */
    static void allHeld() {
        leftOver(TERMS);
        for (int number = 1; number <= PROMISES; number++) {
            leftOver("Promise " + number);
        }
        System.out.println(NAMED.size() + " sentences have a test of their own");
    }

    private static void leftOver(String section) {
        String text = TEXTS.getOrDefault(section, "");
        Check.must(!text.isEmpty(), "the document has no section " + section);
        StringBuilder left = new StringBuilder();
        for (int i = 0; i < text.length(); i++) {
            left.append(HELD.get(section)[i] ? ' ' : text.charAt(i));
        }
        String rest = left.toString().replaceAll("\\s+", " ").trim();
        Check.must(!rest.matches("(?s).*[A-Za-z0-9].*"), section + " has words without a test: " + rest);
    }
}
