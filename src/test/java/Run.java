import java.lang.reflect.InvocationTargetException;
import java.lang.reflect.Method;
import java.lang.reflect.Modifier;
import java.util.ArrayList;
import java.util.HashMap;
import java.util.List;
import java.util.Map;
import java.util.Set;

/**
 * A run of calls on a new object, written as the document writes its examples:
 * "reset(2,2,12) = 24; want(0,0) = NONE; 3 * sum(1); rate() = 0.5f". A call without an answer is
 * only made, and must not return an error; a number ahead of a call makes it so many times.
 *
 * <p>A call that is to return an error, and one that only asks, must leave everything that the object
 * shows as it was. What an object shows only later (plans, slots, bytes) is looked at in the end: an
 * object that was spared these calls must still be its twin. These looks are calls, too; a run may
 * have more than 512 with them, which the class does not count.
 */
final class Run {
    private static final Map<String, Method> FACE = new HashMap<>();
    private static final Set<String> ASKING = Set.of("cached", "pending", "sent", "user", "decode",
            "proof", "need", "bound", "rate", "formula", "sharedRate", "fault", "why", "count", "digest");
    private static final List<Run> ALL = new ArrayList<>();
    private static int wrong = 0;
    private static int made = 0;
    /** Complaints are counted, but not printed. */
    static boolean quiet = false;

    private final String name;
    /** The calls of a muted run are not made. */
    final boolean muted;
    private final List<String> allCalls = new ArrayList<>();
    private final List<String> changingCalls = new ArrayList<>();
    /** What the object shows now, or null if it may have changed since it was looked at. */
    private String shown = null;
    private boolean looks = true;
    final CodedCaching object = new CodedCaching();

    static {
        for (Method method : CodedCaching.class.getDeclaredMethods()) {
            if (Modifier.isPublic(method.getModifiers())) {
                FACE.put(method.getName(), method);
            }
        }
    }

    Run(String name) {
        this(name, false);
    }

    Run(String name, boolean muted) {
        this.name = name;
        this.muted = muted;
        ALL.add(this);
    }

    /** Ends the test program: with exit code 1 if an answer was not the one that is due. */
    static void end() {
        int found = wrongInAll();
        System.out.println(made + " calls, " + found + " answers not as due");
        if (found != 0) {
            System.exit(1);
        }
    }

    /** How many answers were not as due, when all runs have come to their end. */
    static int wrongInAll() {
        for (Run run : ALL) {
            run.compareWithTwin();
        }
        return wrong;
    }

    static void complain(String what) {
        wrong++;
        if (!quiet) {
            System.out.println(what);
        }
    }

    /** From now on only the calls that are written are made, and nothing is looked at between them. */
    Run withoutLooks() {
        looks = false;
        return this;
    }

    Run calls(String calls) {
        for (String call : calls.split(";")) {
            if (!call.isBlank()) {
                timesWritten(call.strip());
            }
        }
        return this;
    }

    private void timesWritten(String call) {
        int star = call.indexOf('*');
        if (star < 0) {
            oneCall(call);
        } else {
            times(Integer.parseInt(call.substring(0, star).strip()), call.substring(star + 1).strip());
        }
    }

    Run times(int times, String call) {
        for (int i = 0; i < times; i++) {
            oneCall(call);
        }
        return this;
    }

    /** Types a text behind the one that is there, and asks each time for the length. */
    Run text(String text) {
        int length = object.count(9);
        for (char letter : text.toCharArray()) {
            length++;
            oneCall("type(" + (int) letter + ") = " + length);
        }
        return this;
    }

    Run newText(String text) {
        oneCall("clearText()");
        return text(text);
    }

    Run due(String call, long got, long want) {
        made++;
        if (!muted && got != want) {
            complain(name + ": " + call + " answered " + got + ", due is " + want);
        }
        return this;
    }

    /** Makes a call that must be taken, whatever else it answers: anything but BAD. */
    Run taken(String call) {
        if (muted) {
            return this;
        }
        made++;
        long got = record(call, false);
        if (got == CodedCaching.BAD) {
            complain(name + ": " + call + " answered BAD");
        }
        return this;
    }

    private void oneCall(String call) {
        if (muted) {
            return;
        }
        int equals = call.indexOf('=');
        String plain = equals < 0 ? call : call.substring(0, equals).strip();
        boolean due = equals >= 0;
        long want = due ? number(call.substring(equals + 1).strip()) : 0;
        boolean asks = ASKING.contains(plain.substring(0, plain.indexOf('(')));
        boolean leavesAll = looks && (asks || due && isError(want));
        if (leavesAll && shown == null) {
            shown = Shown.by(object);
        }
        String before = shown;
        long got = record(plain, leavesAll);
        if (due) {
            due(plain, got, want);
        } else if (isError(got)) {
            complain(name + ": " + plain + " answered " + got + ", which is an error");
        }
        if (leavesAll) {
            shown = Shown.by(object);
            if (!shown.equals(before)) {
                complain(name + ": " + plain + " changed what the object shows");
            }
        }
    }

    private long record(String call, boolean leavesAll) {
        allCalls.add(call);
        if (!leavesAll) {
            changingCalls.add(call);
            shown = null;
        }
        return make(object, call);
    }

    private void compareWithTwin() {
        if (allCalls.size() == changingCalls.size()) {
            return;
        }
        if (!Shown.inDepthBy(madeBy(allCalls)).equals(Shown.inDepthBy(madeBy(changingCalls)))) {
            complain(name + ": a call that returned an error, or only asked, changed what the object shows later");
        }
    }

    private CodedCaching madeBy(List<String> calls) {
        CodedCaching fresh = new CodedCaching();
        for (String call : calls) {
            make(fresh, call);
        }
        return fresh;
    }

    private long make(CodedCaching target, String call) {
        int open = call.indexOf('(');
        Method method = FACE.get(call.substring(0, open));
        String inside = call.substring(open + 1, call.indexOf(')'));
        String[] parts = inside.isBlank() ? new String[0] : inside.split(",");
        Object[] arguments = new Object[parts.length];
        for (int i = 0; i < parts.length; i++) {
            long value = number(parts[i].strip());
            if (method.getParameterTypes()[i] == long.class) {
                arguments[i] = value;
            } else {
                arguments[i] = Math.toIntExact(value);
            }
        }
        try {
            return ((Number) method.invoke(target, arguments)).longValue();
        } catch (InvocationTargetException e) {
            complain(name + ": " + call + " threw " + e.getCause());
            return Long.MIN_VALUE;
        } catch (IllegalAccessException e) {
            throw new IllegalStateException(name + ": " + call, e);
        }
    }

    private static boolean isError(long answer) {
        return answer == -101 || answer == -102 || answer == -103;
    }

    private static long number(String word) {
        switch (word) {
            case "BAD": return -101;
            case "STATE": return -102;
            case "FULL": return -103;
            case "NONE": return -1;
            case "MIN": return Integer.MIN_VALUE;
            case "MAX": return Integer.MAX_VALUE;
            case "LONGMIN": return Long.MIN_VALUE;
            case "LONGMAX": return Long.MAX_VALUE;
            default: break;
        }
        if (word.endsWith("f")) {
            return Float.floatToIntBits(Float.parseFloat(word));
        }
        return Long.parseLong(word.endsWith("L") ? word.substring(0, word.length() - 1) : word);
    }
}
