import java.util.ArrayList;
import java.util.LinkedHashSet;
import java.util.List;
import java.util.Map;
import java.util.Set;
import java.util.TreeMap;
import java.util.regex.Matcher;
import java.util.regex.Pattern;

/** The sentences of the document by promise (0 is what stands before them), and which of them have a test. */
final class Sentences {
    /** What the class is for: it promises nothing. */
    private static final String PURPOSE = "A flock of baskets that migrates over a grid of cells";
    private static final Pattern SECTION = Pattern.compile("(?ms)^## ([^\n]*)\n(.*?)(?=^## |\\z)");
    private static final Pattern PROMISE = Pattern.compile("Promise ([0-9]+): .*");

    private final Map<Integer, Set<String>> told = new TreeMap<>();
    private final Map<Integer, Set<String>> tested = new TreeMap<>();

    Sentences(String document) {
        Matcher sections = SECTION.matcher(document);
        while (sections.find()) {
            String title = sections.group(1);
            Matcher promise = PROMISE.matcher(title);
            if (promise.matches()) {
                take(Integer.parseInt(promise.group(1)), sections.group(2));
            } else if (title.equals("What it is") || title.equals("Terms")) {
                take(0, sections.group(2));
            }
        }
    }

    private void take(int promise, String section) {
        Set<String> sentences = told.computeIfAbsent(promise, none -> new LinkedHashSet<>());
        for (String line : section.split("\n")) {
            // The signature in front of a promise is tested by FaceTests.
            String plain = line.strip().replaceFirst("^`[^`]*`: ", "").replaceFirst("^- ", "");
            if (plain.isEmpty() || plain.startsWith("```") || plain.startsWith("Ahead of the calls")) {
                continue;
            }
            for (String sentence : plain.split("(?<=[.])\\s+(?=[A-Z])")) {
                if (!isHeading(sentence) && !sentence.startsWith(PURPOSE)) {
                    sentences.add(sentence);
                }
            }
        }
    }

    /** A paragraph of the terms begins with its one or two words. */
    private static boolean isHeading(String sentence) {
        return sentence.matches("[A-Z][a-z]*( [a-z]+)?[.]");
    }

    /** The sentences with these words; a test is to quote so much that there is just one. */
    List<String> with(int promise, String words) {
        List<String> found = new ArrayList<>();
        for (String sentence : told.getOrDefault(promise, Set.of())) {
            if (sentence.contains(words)) {
                found.add(sentence);
            }
        }
        return found;
    }

    void test(int promise, String sentence) {
        tested.computeIfAbsent(promise, none -> new LinkedHashSet<>()).add(sentence);
    }

    List<String> untested() {
        List<String> untested = new ArrayList<>();
        for (int promise : told.keySet()) {
            for (String sentence : told.get(promise)) {
                if (!tested.getOrDefault(promise, Set.of()).contains(sentence)) {
                    untested.add(promise + ": " + sentence);
                }
            }
        }
        return untested;
    }
}
