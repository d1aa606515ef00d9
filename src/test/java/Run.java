import java.lang.reflect.Method;
import java.util.HashMap;
import java.util.Map;
import java.util.Set;

/**
 * A run of calls on a new object, written as the document writes its examples:
 * "reset(2,2,12) = 24; want(0,0) = NONE; rate() = 0.5f". A call without an answer is only made,
 * and must not return an error. A call that returns an error, and one that only asks, must leave
 * the digest as it was.
 */
final class Run {
    private static final Map<String, Method> FACE = new HashMap<>();
    private static final Set<String> ASKING = Set.of("cached", "pending", "sent", "user", "decode",
            "proof", "need", "bound", "rate", "formula", "sharedRate", "fault", "why", "save", "count");
    private static int wrong = 0;
    private static int made = 0;

    private final String name;
    final CodedCaching object = new CodedCaching();

    static {
        for (Method method : CodedCaching.class.getDeclaredMethods()) {
            if (java.lang.reflect.Modifier.isPublic(method.getModifiers())) {
                FACE.put(method.getName(), method);
            }
        }
    }

    Run(String name) {
        this.name = name;
    }

    /** Ends the test program: with exit code 1 if an answer was not the one that is due. */
    static void end() {
        System.out.println(made + " calls, " + wrong + " answers not as due");
        if (wrong != 0) {
            System.exit(1);
        }
    }

    static void complain(String what) {
        wrong++;
        System.out.println(what);
    }

    Run calls(String calls) {
        for (String call : calls.split(";")) {
            if (!call.isBlank()) {
                oneCall(call.strip());
            }
        }
        return this;
    }

    Run times(int times, String call) {
        for (int i = 0; i < times; i++) {
            oneCall(call);
        }
        return this;
    }

    /** Types a text behind the one that is there, and asks each time for the length. */
    Run text(String text) {
        int length = object.count(9);
        for (char letter : text.toCharArray()) {
            length++;
            due("type(" + (int) letter + ")", object.type(letter), length);
        }
        return this;
    }

    Run newText(String text) {
        object.clearText();
        return text(text);
    }

    Run due(String call, long got, long want) {
        made++;
        if (got != want) {
            complain(name + ": " + call + " answered " + got + ", due is " + want);
        }
        return this;
    }

    private void oneCall(String call) {
        int equals = call.indexOf('=');
        String plain = equals < 0 ? call : call.substring(0, equals).strip();
        long before = object.digest();
        long got = make(plain);
        if (equals >= 0) {
            due(plain, got, answer(call.substring(equals + 1).strip()));
        } else if (isError(got)) {
            complain(name + ": " + plain + " answered " + got + ", which is an error");
        }
        boolean asks = ASKING.contains(plain.substring(0, plain.indexOf('(')));
        if ((asks || isError(got)) && object.digest() != before) {
            complain(name + ": " + plain + " changed the digest");
        }
    }

    private long make(String call) {
        int open = call.indexOf('(');
        Method method = FACE.get(call.substring(0, open));
        String inside = call.substring(open + 1, call.indexOf(')'));
        String[] parts = inside.isBlank() ? new String[0] : inside.split(",");
        Object[] arguments = new Object[parts.length];
        for (int i = 0; i < parts.length; i++) {
            long value = answer(parts[i].strip());
            if (method.getParameterTypes()[i] == long.class) {
                arguments[i] = value;
            } else {
                arguments[i] = Math.toIntExact(value);
            }
        }
        try {
            return ((Number) method.invoke(object, arguments)).longValue();
        } catch (ReflectiveOperationException e) {
            throw new IllegalStateException(name + ": " + call, e);
        }
    }

    private static boolean isError(long answer) {
        return answer == -101 || answer == -102 || answer == -103;
    }

    private static long answer(String word) {
        switch (word) {
            case "BAD": return -101;
            case "STATE": return -102;
            case "FULL": return -103;
            case "NONE": return -1;
            case "MIN": return Integer.MIN_VALUE;
            case "MAX": return Integer.MAX_VALUE;
            default: break;
        }
        if (word.endsWith("f")) {
            return Float.floatToIntBits(Float.parseFloat(word));
        }
        return Long.parseLong(word.endsWith("L") ? word.substring(0, word.length() - 1) : word);
    }
}
