import java.util.ArrayList;
import java.util.List;
import java.util.regex.Matcher;
import java.util.regex.Pattern;

/** The section 'The public face', and what the document says that its interface says: both stand in the source. */
final class FaceSentences {
    private static final Pattern AHEAD = Pattern.compile("Ahead of the calls (.*) the interface says: (---- .*)");
    private static final Pattern CALL = Pattern.compile("(?m)^    public (?:int|long) (\\w+)\\(");

    private FaceSentences() { }

    static void all(String source) {
        face(source);
        headings(source);
    }

    /** Line by line, and in the same order; a body follows where the document has a semicolon. */
    private static void face(String source) {
        String face = Document.codeOf(Document.FACE);
        if (face == null) {
            return;
        }
        Run run = Said.in(Document.FACE, "public final class CodedCaching");
        int at = 0;
        for (String line : face.split("\\n")) {
            String due = line.strip().replaceFirst("\\);$", ") {");
            int found = due.equals("}") ? at : source.indexOf(due, at);
            run.due("the source has in this order: " + due, found < 0 ? 0 : 1, 1);
            at = Math.max(at, found);
        }
    }

    private static void headings(String source) {
        for (String saying : Document.sayings(Document.TERMS)) {
            Matcher ahead = AHEAD.matcher(saying);
            if (ahead.matches()) {
                Run run = Said.in(Document.TERMS, saying);
                String calls = String.join(", ", callsBehind(source, ahead.group(2)));
                run.due("the calls are there: " + calls, calls.equals(ahead.group(1).replace("`", "")) ? 1 : 0, 1);
            }
        }
    }

    private static List<String> callsBehind(String source, String heading) {
        List<String> calls = new ArrayList<>();
        int begin = source.indexOf("// " + heading + "\n");
        if (begin < 0) {
            return calls;
        }
        int end = source.indexOf("// ----", begin + 1);
        Matcher call = CALL.matcher(source.substring(begin, end < 0 ? source.length() : end));
        while (call.find()) {
            calls.add(call.group(1));
        }
        return calls;
    }
}
