import java.io.IOException;
import java.io.UncheckedIOException;
import java.nio.file.Files;
import java.nio.file.Path;
import java.util.LinkedHashMap;
import java.util.Map;
import java.util.regex.Matcher;
import java.util.regex.Pattern;

/**
 * Tests by sentence: each names a part of the document and a sentence of it, which must stand
 * there word for word; and of a part that is told to be whole, no word may be left without a test.
 */
final class Says {
    private static final Path DOCUMENT = Path.of("../shared/DOC.md");

    /** The words of each part, on one line, and which of them a test has named. */
    private static final Map<String, String> WORDS = new LinkedHashMap<>();
    private static final Map<String, boolean[]> NAMED = new LinkedHashMap<>();

    private static String label = "";
    private static int checks = 0;
    private static int tests = 0;

    private Says() {
    }

    static {
        readDocument();
    }

    private static String textOfDocument() {
        try {
            return Files.readString(DOCUMENT);
        } catch (IOException e) {
            throw new UncheckedIOException(e);
        }
    }

    /** Where there is no document, the tests run all the same, but no sentence is looked up. */
    private static boolean isThere() {
        return Files.isReadable(DOCUMENT);
    }

    private static void readDocument() {
        if (!isThere()) {
            System.out.println("no sentence is looked up: there is no " + DOCUMENT);
            return;
        }
        String text = textOfDocument();
        Matcher sections = Pattern.compile("(?ms)^## ([^\n]*)\n(.*?)(?=^## |\\z)").matcher(text);
        while (sections.find()) {
            String heading = sections.group(1);
            if (heading.equals("Terms")) {
                readTerms(sections.group(2));
            } else {
                // A promise begins with its face, which is no sentence.
                put(heading, sections.group(2).replaceFirst("\\A\\s*`[^`]*`:", ""));
            }
        }
    }

    private static void readTerms(String text) {
        String[] parts = text.split("======== \\d|(?m)^(?=Ahead of the calls)");
        put("Terms", parts[0]);
        for (int k = 1; k <= 3; k++) {
            put("Terms " + k, parts[k]);
        }
    }

    private static void put(String part, String text) {
        String words = text.replaceAll("(?m)^```.*$", "").replaceAll("\\s+", " ").trim();
        WORDS.put(part, words);
        NAMED.put(part, new boolean[words.length()]);
    }

    /** A part by its heading, or a promise by its number: "Promise 2" is "Promise 2: size". */
    private static String partOf(String name) {
        for (String part : WORDS.keySet()) {
            if (part.equals(name) || part.startsWith(name + ":")) {
                return part;
            }
        }
        return isThere() ? "" : name;
    }

    static void test(String name, String sentence, Runnable test) {
        String part = partOf(name);
        label = part + ", \"" + sentence + "\"";
        checks = 0;
        tests++;
        Check.holds(label + " stands in the document", !isThere() || name(part, sentence));
        test.run();
        Check.holds(label + " has a test", checks > 0);
    }

    /** Names the sentence where it stands for the first time without a name. */
    private static boolean name(String part, String sentence) {
        String words = WORDS.getOrDefault(part, "");
        int first = words.indexOf(sentence);
        if (first < 0) {
            return false;
        }
        boolean[] named = NAMED.get(part);
        int at = first;
        while (named[at] && words.indexOf(sentence, at + 1) >= 0) {
            at = words.indexOf(sentence, at + 1);
        }
        for (int k = at; k < at + sentence.length(); k++) {
            named[k] = true;
        }
        return true;
    }

    static void due(String call, long got, long want) {
        checks++;
        Check.due(label + ": " + call, got, want);
    }

    static void holds(String what, boolean so) {
        checks++;
        Check.holds(label + ": " + what, so);
    }

    /** No word of the part may be without a test that names it. */
    static void whole(String name) {
        String part = partOf(name);
        Check.holds("there is a part " + name, !part.isEmpty());
        String words = WORDS.getOrDefault(part, "");
        boolean[] named = NAMED.getOrDefault(part, new boolean[0]);
        StringBuilder left = new StringBuilder();
        for (int k = 0; k < words.length(); k++) {
            left.append(named[k] ? ' ' : words.charAt(k));
        }
        String without = left.toString().replaceAll("[^A-Za-z0-9]+", " ").trim();
        Check.holds(part + ": no test names: " + without, without.isEmpty());
    }

    static void wholePromises(int first, int last) {
        for (int k = first; k <= last; k++) {
            whole("Promise " + k);
        }
    }

    static void finish() {
        System.out.println(tests + " tests by sentence");
        Check.finish();
    }
}
