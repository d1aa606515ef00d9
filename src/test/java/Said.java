import java.util.ArrayList;
import java.util.List;
import java.util.Map;
import java.util.TreeMap;

/**
 * The tests of what the document says, each named after its section and after words that stand there.
 * In the end it is looked at whether everything that the document says has a test, from its first
 * line to its last: a part of it that has none, or a test whose words do not stand there any more, is
 * complained of.
 */
final class Said {
    private static final Map<Integer, List<String>> NAMED = new TreeMap<>();
    private static final Map<Integer, List<String>> FREE = new TreeMap<>();
    /** If it is not null, only the runs that are named after these words are made. */
    static String onlyWords = null;
    static int onlySection = 0;

    private Said() { }

    /** A new run for what these words of the section say; it may have several names. */
    static Run in(int section, String... words) {
        boolean muted = onlyWords != null;
        for (String each : words) {
            name(section, each);
            muted &= section != onlySection || !each.equals(onlyWords);
        }
        return new Run(Document.nameOf(section) + ", '" + words[0] + "'", muted);
    }

    /** For words that no answer of the class could break. */
    static void withoutTest(int section, String words) {
        name(section, words);
        FREE.computeIfAbsent(section, any -> new ArrayList<>()).add(words);
    }

    static boolean isFree(int section, String saying) {
        return FREE.getOrDefault(section, List.of()).stream().anyMatch(saying::contains);
    }

    private static void name(int section, String words) {
        if (Document.isHere() && !Document.says(section, words)) {
            Run.complain(Document.nameOf(section) + " does not say: " + words);
        }
        NAMED.computeIfAbsent(section, any -> new ArrayList<>()).add(words);
    }

    static void lookForGaps() {
        for (int section : Document.sections()) {
            for (String saying : Document.sayings(section)) {
                if (!isNamed(section, saying)) {
                    Run.complain(Document.nameOf(section) + " has no test for: " + saying);
                }
            }
        }
    }

    private static boolean isNamed(int section, String saying) {
        for (String words : NAMED.getOrDefault(section, List.of())) {
            if (saying.contains(words) || words.contains(saying)) {
                return true;
            }
        }
        return false;
    }
}
