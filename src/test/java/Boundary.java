import java.io.IOException;
import java.nio.file.Files;
import java.nio.file.Path;
import java.util.ArrayList;
import java.util.List;
import java.util.regex.Matcher;
import java.util.regex.Pattern;

/**
 * The tests of boundary cases, each named after its promise and after words of the document that
 * name the case; 0 stands for the section 'Terms'. The words must stand in the document, and what the
 * document says of an argument, or behind an 'if', must have a test: that is looked at in the end.
 */
final class Boundary {
    static final int TERMS = 0;
    private static final int PROMISES = 36;
    private static final Path DOCUMENT = Path.of("..", "shared", "DOC.md");
    private static final String[] SECTIONS = readSections();
    private static final List<List<String>> NAMED = new ArrayList<>();

    static {
        for (int promise = 0; promise <= PROMISES; promise++) {
            NAMED.add(new ArrayList<>());
        }
    }

    private Boundary() { }

    private static String[] readSections() {
        String[] sections = new String[PROMISES + 1];
        if (!Files.isReadable(DOCUMENT)) {
            System.out.println("there is no " + DOCUMENT + ": the names of the tests are not compared with it");
            return sections;
        }
        Pattern heading = Pattern.compile("(?ms)^## (Terms|Promise (\\d+): [^\\n]*)\\n(.*?)(?=^## |\\z)");
        try {
            Matcher section = heading.matcher(Files.readString(DOCUMENT));
            while (section.find()) {
                int promise = section.group(2) == null ? TERMS : Integer.parseInt(section.group(2));
                sections[promise] = section.group(3);
            }
        } catch (IOException e) {
            throw new IllegalStateException(e);
        }
        return sections;
    }

    /** A new run for the boundary case that these words of the promise name. */
    static Run of(int promise, String words) {
        String section = SECTIONS[promise];
        if (section != null && !section.replaceAll("\\s+", " ").contains(words)) {
            Run.complain("promise " + promise + " does not say: " + words);
        }
        NAMED.get(promise).add(words);
        return new Run((promise == TERMS ? "Terms" : "promise " + promise) + ", '" + words + "'");
    }

    /** Complains of each argument and each 'if' of the promises that no test is named after. */
    static void lookForGaps() {
        for (int promise = 1; promise <= PROMISES; promise++) {
            if (NAMED.get(promise).isEmpty()) {
                Run.complain("promise " + promise + " has no test of a boundary case");
            }
            if (SECTIONS[promise] == null) {
                continue;
            }
            for (String line : SECTIONS[promise].split("\\n")) {
                if (line.startsWith("- ")) {
                    lookFor(promise, line);
                } else if (line.startsWith("Returns ")) {
                    lookForClauses(promise, line);
                }
            }
        }
    }

    private static void lookForClauses(int promise, String line) {
        for (String clause : line.split(";")) {
            if (clause.contains(" if ") || clause.contains("NONE")) {
                lookFor(promise, clause);
            }
        }
    }

    private static void lookFor(int promise, String place) {
        for (String words : NAMED.get(promise)) {
            if (place.contains(words)) {
                return;
            }
        }
        Run.complain("promise " + promise + " has no test for: " + place.strip());
    }

    /** The first and the last number are taken; those beside them and the ends of int are refused. */
    static void edges(Run run, String call, int least, int greatest) {
        run.taken(filled(call, least)).taken(filled(call, greatest));
        refused(run, call, least, greatest, "BAD");
    }

    static void refused(Run run, String call, int least, int greatest, String answer) {
        for (String number : new String[] {"" + (least - 1L), "" + (greatest + 1L), "MIN", "MAX"}) {
            run.calls(call.replace("#", number) + " = " + answer);
        }
    }

    private static String filled(String call, int number) {
        return call.replace("#", "" + number);
    }

    /** The edges of an argument that is a user, with each number of users there can be. */
    static void users(int promise, String call) {
        Run run = of(promise, "`user`: the user");
        for (int k = 1; k <= 6; k++) {
            run.calls("reset(2," + k + ",24) = 24");
            edges(run, call, 0, k - 1);
        }
    }

    /** The edges of an argument that is a piece, with each number of files there can be. */
    static void pieces(int promise, String call) {
        Run run = of(promise, "`piece`: the piece");
        for (int n = 1; n <= 5; n++) {
            run.calls("reset(" + n + ",2,60) = " + 12 * n);
            edges(run, call, 0, 12 * n - 1);
        }
    }
}
