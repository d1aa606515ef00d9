import java.io.IOException;
import java.nio.file.Files;
import java.nio.file.Path;
import java.util.List;
import java.util.Set;
import java.util.regex.Matcher;
import java.util.regex.Pattern;

/** Rules of LANGUAGE.md that can be seen in the source: words that may not stand in it, and lengths. */
public final class LanguageTest {
    private static final Path SOURCE = Path.of("src", "main", "java", "CodedCaching.java");
    private static final int LONGEST_METHOD = 60;
    private static final int MOST_PARAMETERS = 7;
    private static final List<String> FORBIDDEN = List.of("\\bimport\\b", "\\bpackage\\b", "->", "::", "\\bsynchronized\\b",
            "\\bassert\\b", "\\btry\\b", "\\bcatch\\b", "\\bfinally\\b", "\\bthrow\\b", "\\bthrows\\b", "\\bstatic\\s*\\{",
            "\\bFloat\\s*\\.", "\\bDouble\\s*\\.", "\\w+Exact\\b", "\\bhashCode\\b", "\\btoString\\b", "\\bequals\\b",
            "\\bvar\\b", "\\bprotected\\b", "\\bvolatile\\b", "\\bnative\\b", "@\\w+", "\\bObject\\b");
    private static final Set<String> LIBRARY = Set.of("Math.min", "Math.max", "Long.bitCount", "Integer.bitCount",
            "System.arraycopy");

    public static void main(String[] args) throws IOException {
        String code = withoutComments(Files.readString(SOURCE));
        for (String word : FORBIDDEN) {
            Matcher matcher = Pattern.compile(word).matcher(code);
            if (matcher.find()) {
                Run.complain("the source has '" + matcher.group() + "'");
            }
        }
        library(code);
        methods(code);
        Run.end();
    }

    private static String withoutComments(String source) {
        return source.replaceAll("(?s)/\\*.*?\\*/", "").replaceAll("//[^\\n]*", "");
    }

    private static void library(String code) {
        Matcher matcher = Pattern.compile("\\b(?:Math|Long|Integer|System|Arrays|Character|Short|Byte|Boolean)\\s*\\.\\s*\\w+").matcher(code);
        while (matcher.find()) {
            if (!LIBRARY.contains(matcher.group())) {
                Run.complain("the source uses " + matcher.group());
            }
        }
    }

    /** A method begins at four or eight blanks and ends with the bracket that closes it. */
    private static void methods(String code) {
        Matcher head = Pattern.compile("(?m)^ {4,8}(?:\\w+ )*\\w+\\(([^)]*)\\) \\{$").matcher(code);
        int found = 0;
        while (head.find()) {
            found++;
            String body = code.substring(head.start(), endOf(code, head.end()));
            long lines = body.lines().count();
            if (lines > LONGEST_METHOD) {
                Run.complain(head.group().strip() + " has " + lines + " lines");
            }
            if (head.group(1).split(",").length > MOST_PARAMETERS) {
                Run.complain(head.group().strip() + " has too many parameters");
            }
        }
        if (found < 36) {
            Run.complain("only " + found + " methods were found in the source");
        }
    }

    private static int endOf(String code, int begin) {
        int depth = 1;
        int at = begin;
        while (at < code.length() && depth > 0) {
            char letter = code.charAt(at++);
            depth += letter == '{' ? 1 : letter == '}' ? -1 : 0;
        }
        return at;
    }
}
