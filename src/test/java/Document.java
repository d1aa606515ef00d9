import java.io.IOException;
import java.nio.file.Files;
import java.nio.file.Path;
import java.util.ArrayList;
import java.util.HashMap;
import java.util.LinkedHashMap;
import java.util.List;
import java.util.Map;
import java.util.regex.Matcher;
import java.util.regex.Pattern;

/**
 * The document, cut into what it says: sentences, and where a sentence says several things one behind
 * the other ("STATE if ..; FULL if ..", "0 for .., 1 for .."), each of them by itself. The sections have
 * the numbers of their promises; the others have numbers of their own.
 */
final class Document {
    static final int WHAT_IT_IS = -2, FACE = -1, TERMS = 0, PROMISES = 36, NOT_PROMISED = 37;

    private static final Path PLACE = Path.of("..", "shared", "DOC.md");
    private static final Pattern SECTION =
            Pattern.compile("(?ms)^## (What it is|The public face|Terms|Promise (\\d+): [^\\n]*|Not promised)\\n(.*?)(?=^## |\\z)");
    private static final Pattern EXAMPLE = Pattern.compile("(?m)^\\d\\. [^:\\n]*: ([^\\n]*?)\\.?$");
    private static final Map<Integer, String> SECTIONS = read();
    private static final Map<Integer, String> IN_ONE_LINE = new HashMap<>();

    private Document() { }

    /** Where the tests are run without it, there is nothing to compare with. */
    static boolean isHere() {
        return !SECTIONS.isEmpty();
    }

    private static Map<Integer, String> read() {
        Map<Integer, String> sections = new LinkedHashMap<>();
        if (!Files.isReadable(PLACE)) {
            System.out.println("there is no " + PLACE + ": nothing is compared with it");
            return sections;
        }
        try {
            Matcher section = SECTION.matcher(Files.readString(PLACE));
            while (section.find()) {
                sections.put(numberOf(section), section.group(3));
            }
        } catch (IOException e) {
            throw new IllegalStateException(e);
        }
        return sections;
    }

    private static int numberOf(Matcher section) {
        switch (section.group(1)) {
            case "What it is": return WHAT_IT_IS;
            case "The public face": return FACE;
            case "Terms": return TERMS;
            case "Not promised": return NOT_PROMISED;
            default: return Integer.parseInt(section.group(2));
        }
    }

    static List<Integer> sections() {
        return new ArrayList<>(SECTIONS.keySet());
    }

    static String nameOf(int section) {
        switch (section) {
            case WHAT_IT_IS: return "What it is";
            case FACE: return "The public face";
            case TERMS: return "Terms";
            case NOT_PROMISED: return "Not promised";
            default: return "promise " + section;
        }
    }

    static boolean says(int section, String words) {
        String text = IN_ONE_LINE.computeIfAbsent(section, any -> oneLine(SECTIONS.getOrDefault(section, "")));
        return text.contains(words);
    }

    /** The calls and answers of the examples, in their order. */
    static List<String> examples() {
        List<String> examples = new ArrayList<>();
        Matcher example = EXAMPLE.matcher(SECTIONS.getOrDefault(TERMS, ""));
        while (example.find()) {
            examples.add(example.group(1));
        }
        return examples;
    }

    /** The lines of a block of code, such as the face, or null if there is none. */
    static String codeOf(int section) {
        Matcher code = Pattern.compile("(?s)```\\w*\\n(.*?)```").matcher(SECTIONS.getOrDefault(section, ""));
        return code.find() ? code.group(1) : null;
    }

    /** What a section says, piece by piece, without the examples; of code only a grammar says something. */
    static List<String> sayings(int section) {
        List<String> sayings = new ArrayList<>();
        if (section == TERMS && codeOf(section) != null) {
            for (String rule : codeOf(section).split("\\n| \\| ")) {
                sayings.add(rule.strip().replaceFirst("^call = ", ""));
            }
        }
        String text = SECTIONS.getOrDefault(section, "").replaceAll("(?s)```.*?```", "\n");
        for (String paragraph : EXAMPLE.matcher(text).replaceAll("").split("\\n(?=- )|\\n\\s*\\n")) {
            for (String sentence : oneLine(paragraph).strip().split("(?<=\\.) (?=[A-Z])")) {
                sayings.addAll(partsOf(sentence));
            }
        }
        sayings.removeIf(each -> each.isEmpty() || each.equals("BAD"));
        return sayings;
    }

    private static List<String> partsOf(String sentence) {
        List<String> parts = new ArrayList<>();
        String said = sentence.replaceFirst("^`[^`]*\\([^`]*\\)`: ", "").replaceFirst("\\.$", "");
        for (String part : said.split("; |, (?=\\d for )")) {
            parts.add(part.strip());
        }
        return parts;
    }

    private static String oneLine(String text) {
        return text.replaceAll("\\s+", " ");
    }
}
