import java.io.IOException;
import java.lang.reflect.Field;
import java.lang.reflect.Method;
import java.nio.file.Files;
import java.nio.file.Path;
import java.util.ArrayList;
import java.util.List;
import java.util.Objects;
import java.util.regex.Matcher;
import java.util.regex.Pattern;

/**
 * The tests of what the document says are tested themselves: for everything that it says there is a
 * change of the class that breaks it, in src/test/breakings.txt, and the run that is named after these
 * words must complain of the class that was changed so. A change there looks like this:
 *
 * <pre>
 * 16: A user whose list has 40 sums already loses the first one of its list
 * in receive
 * - received.size >= MOST_RECEIVED
 * + received.size > MOST_RECEIVED
 * </pre>
 */
public final class BreakingsTest {
    private static final Path LIST = Path.of("src", "test", "breakings.txt");

    private record Breaking(int line, int section, String words, String method, String old, String changed) {
        String name() {
            return LIST + ":" + line + ", " + Document.nameOf(section) + ", '" + words + "'";
        }
    }

    public static void main(String[] args) throws IOException {
        if (!Document.isHere()) {
            System.out.println("without the document nothing can be broken");
            return;
        }
        String source = Files.readString(DocumentTest.SOURCE);
        List<Breaking> breakings = read();
        List<String> complaints = new ArrayList<>(breakings.parallelStream().map(each -> complaintOf(source, each))
                .filter(Objects::nonNull).toList());
        complaints.addAll(unbroken(breakings));
        complaints.forEach(System.out::println);
        System.out.println(breakings.size() + " breakings, " + complaints.size() + " complaints");
        if (!complaints.isEmpty()) {
            System.exit(1);
        }
    }

    private static List<Breaking> read() throws IOException {
        List<Breaking> breakings = new ArrayList<>();
        String words = null, method = null, old = null;
        int section = 0, number = 0;
        for (String line : Files.readAllLines(LIST)) {
            number++;
            if (line.matches("-?\\d+: .*")) {
                section = Integer.parseInt(line.substring(0, line.indexOf(':')));
                words = line.substring(line.indexOf(':') + 2);
            } else if (line.startsWith("in ")) {
                method = line.substring(3);
            } else if (line.startsWith("- ")) {
                old = line.substring(2);
            } else if (line.startsWith("+")) {
                breakings.add(new Breaking(number, section, words, method, old, line.substring(1).strip()));
                method = null;
            } else if (!line.isBlank() && !line.startsWith("#")) {
                throw new IllegalStateException(LIST + ":" + number + " cannot be read");
            }
        }
        return breakings;
    }

    /** What the document says must be broken at least once, if it can be broken at all. */
    private static List<String> unbroken(List<Breaking> breakings) {
        Said.onlyWords = "";
        DocumentTest.all("");
        List<String> complaints = new ArrayList<>();
        for (int section : Document.sections()) {
            for (String saying : Document.sayings(section)) {
                boolean broken = breakings.stream().anyMatch(each -> each.section == section
                        && (saying.contains(each.words) || each.words.contains(saying)));
                if (!broken && !Said.isFree(section, saying)) {
                    complaints.add(Document.nameOf(section) + " is not broken where it says: " + saying);
                }
            }
        }
        return complaints;
    }

    /** Null if the run complained, as it is due. */
    private static String complaintOf(String source, Breaking breaking) {
        String broken = change(source, breaking);
        if (broken == null) {
            return breaking.name() + ": the source does not have, or more than once: " + breaking.old;
        }
        Compiled compiled = Compiled.of("CodedCaching", broken);
        if (compiled == null) {
            return breaking.name() + ": does not compile: " + breaking.changed;
        }
        try (compiled) {
            return wrongWith(compiled, broken, breaking) > 0 ? null : breaking.name() + ": not noticed: " + breaking.changed;
        } catch (ReflectiveOperationException | IOException e) {
            return breaking.name() + ": " + (e.getCause() == null ? e : e.getCause());
        }
    }

    private static String change(String source, Breaking breaking) {
        int begin = 0, end = source.length();
        if (breaking.method != null) {
            int dot = breaking.method.indexOf('.');
            int from = dot < 0 ? 0 : source.indexOf(" class " + breaking.method.substring(0, dot) + " {");
            String name = breaking.method.substring(dot + 1);
            Matcher head = Pattern.compile("\\n( +)[\\w\\[\\] ]*\\b" + name + "\\([^)]*\\) \\{").matcher(source);
            if (from < 0 || !head.find(from)) {
                return null;
            }
            begin = head.start();
            end = source.indexOf("\n" + head.group(1) + "}", begin);
        }
        String place = source.substring(begin, end);
        int at = place.indexOf(breaking.old);
        if (at < 0 || place.indexOf(breaking.old, at + 1) >= 0) {
            return null;
        }
        return source.substring(0, begin + at) + breaking.changed + source.substring(begin + at + breaking.old.length());
    }

    private static int wrongWith(Compiled compiled, String source, Breaking breaking) throws ReflectiveOperationException {
        Class<?> said = compiled.loadClass("Said");
        field(said, "onlyWords").set(null, breaking.words);
        field(said, "onlySection").set(null, breaking.section);
        Class<?> run = compiled.loadClass("Run");
        field(run, "quiet").set(null, true);
        method(compiled.loadClass("DocumentTest"), "all", String.class).invoke(null, source);
        return (int) method(run, "wrongInAll").invoke(null);
    }

    private static Method method(Class<?> type, String name, Class<?>... parameters) throws NoSuchMethodException {
        Method method = type.getDeclaredMethod(name, parameters);
        method.setAccessible(true);
        return method;
    }

    private static Field field(Class<?> type, String name) throws NoSuchFieldException {
        Field field = type.getDeclaredField(name);
        field.setAccessible(true);
        return field;
    }
}
