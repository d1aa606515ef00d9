import java.io.IOException;
import java.lang.reflect.Method;
import java.lang.reflect.Modifier;
import java.nio.file.Files;
import java.nio.file.Path;
import java.util.Set;
import java.util.TreeSet;
import java.util.regex.Matcher;
import java.util.regex.Pattern;

/** What README.md shows is so: its Java is compiled and run, and it tells all calls and tests by their right names. */
public final class ReadmeTest {
    private static final Path README = Path.of("README.md");
    private static final Pattern BLOCK = Pattern.compile("(?s)```java\\n(.*?)```");
    private static final Pattern ANSWER = Pattern.compile("(\\S.*?);\\s*// (\\S+).*");
    private static final Pattern COMMAND = Pattern.compile("(?m)^    java -cp /tmp/out (\\w+)");
    private static final Pattern LISTED = Pattern.compile("`(\\w+)\\(([^)]*)\\)`");

    public static void main(String[] args) throws IOException, ReflectiveOperationException {
        String readme = Files.readString(README);
        runAllBlocks(readme);
        commands(readme);
        allCalls(readme);
        Run.end();
    }

    /** A line that begins a new object is left as it is; one that tells an answer is compared with it. */
    private static void runAllBlocks(String readme) throws IOException, ReflectiveOperationException {
        StringBuilder program = new StringBuilder("public final class Shows {\n");
        Matcher block = BLOCK.matcher(readme);
        int blocks = 0, answers = 0;
        while (block.find()) {
            program.append("public static void block").append(blocks++).append("(Check check) {\n");
            for (String line : block.group(1).split("\\n")) {
                Matcher answer = ANSWER.matcher(line.strip());
                boolean compares = !line.contains(" = new ") && answer.matches();
                answers += compares ? 1 : 0;
                program.append(compares ? comparison(answer.group(1), answer.group(2)) : line).append('\n');
            }
            program.append("}\n");
        }
        program.append("public interface Check { void same(String call, Object got, Object want); }\n}\n");
        if (blocks < 7 || answers < 40) {
            Run.complain("README.md shows only " + answers + " answers in " + blocks + " blocks");
        }
        run(program.toString());
    }

    private static String comparison(String call, String answer) {
        return "check.same(\"" + call.replace("\\", "\\\\").replace("\"", "\\\"") + "\", " + call + ", " + answer + ");";
    }

    private static void run(String program) throws IOException, ReflectiveOperationException {
        try (Compiled compiled = Compiled.of("Shows", program)) {
            if (compiled == null) {
                Run.complain("what README.md shows does not compile:\n" + program);
                return;
            }
            Run run = new Run("README.md");
            Class<?> check = compiled.loadClass("Shows$Check");
            Object checker = java.lang.reflect.Proxy.newProxyInstance(compiled, new Class<?>[] {check}, (self, method, given) -> {
                boolean same = String.valueOf(given[1]).equals(String.valueOf(given[2]));
                run.due(given[0] + " answers " + given[1] + " where " + given[2] + " is shown", same ? 1 : 0, 1);
                return null;
            });
            for (Method method : compiled.loadClass("Shows").getDeclaredMethods()) {
                method.invoke(null, checker);
            }
        }
    }

    private static void commands(String readme) {
        Matcher command = COMMAND.matcher(readme);
        while (command.find()) {
            if (!Files.exists(Path.of("src", "test", "java", command.group(1) + ".java"))) {
                Run.complain("README.md runs " + command.group(1) + ", which does not exist");
            }
        }
        if (!Files.isExecutable(Path.of(".ci", "run"))) {
            Run.complain("README.md tells to run .ci/run, which cannot be run");
        }
    }

    private static void allCalls(String readme) {
        Set<String> listed = new TreeSet<>(), due = new TreeSet<>();
        Matcher call = LISTED.matcher(readme);
        while (call.find()) {
            listed.add(call.group(1) + " " + (call.group(2).isBlank() ? 0 : call.group(2).split(",").length));
        }
        for (Method method : CodedCaching.class.getDeclaredMethods()) {
            if (Modifier.isPublic(method.getModifiers())) {
                due.add(method.getName() + " " + method.getParameterCount());
            }
        }
        if (!listed.equals(due)) {
            Run.complain("README.md lists " + listed + " but the calls are " + due);
        }
    }
}
