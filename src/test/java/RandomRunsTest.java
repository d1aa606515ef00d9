import java.lang.reflect.InvocationTargetException;
import java.lang.reflect.Method;
import java.lang.reflect.Modifier;
import java.util.Arrays;
import java.util.HashMap;
import java.util.Map;
import java.util.Random;

/**
 * Random runs of 512 calls, with every answer compared with the one of the Model; a refused call
 * must leave all that the object shows as it was. The seeds are fixed, so each run of the test makes
 * the same calls. An argument tells another number of runs.
 */
public final class RandomRunsTest {
    private static final int CALLS = 512;
    private static final String[] WORDS = {"w00;", "w11;", "w2 0;", "n0;", "n1;", "q1;", "q 2;", "q0;", "i50;",
            "i1;", "s0;", "s1;", "s2;", "s3 ;", "t0;", "t 1;", "t12;", "t63;", "l0;", "l1;", "j0;", " j1;", "  "};
    private static final String[] LIKELY = {"store", "drop", "plan", "want", "want", "sum", "sum", "schedule",
            "send", "send", "send", "send", "resend", "decode", "decode", "proof", "proof", "user", "need",
            "cached", "bound", "idle", "digest", "pending", "sent", "storeRandom", "storeSubsets"};

    private final Map<String, Method> face = new HashMap<>();
    private final Map<String, Method> model = new HashMap<>();
    private final Map<String, Integer> made = new HashMap<>();
    private final Map<Long, Integer> errors = new HashMap<>();
    private int wrong = 0;

    private Random random;
    private CodedCaching object;
    private Model due;
    private int calls;
    private StringBuilder story;

    private RandomRunsTest() {
        for (Method method : CodedCaching.class.getDeclaredMethods()) {
            if (Modifier.isPublic(method.getModifiers())) {
                face.put(method.getName(), method);
            }
        }
        for (String name : face.keySet()) {
            try {
                model.put(name, Model.class.getDeclaredMethod(name, face.get(name).getParameterTypes()));
            } catch (NoSuchMethodException e) {
                throw new IllegalStateException(name, e);
            }
        }
    }

    public static void main(String[] args) {
        int runs = args.length > 0 ? Integer.parseInt(args[0]) : 150;
        RandomRunsTest test = new RandomRunsTest();
        for (int seed = 1; seed <= runs && test.wrong < 5; seed++) {
            test.oneRun(seed);
        }
        test.end(runs);
    }

    private void end(int runs) {
        for (String name : face.keySet()) {
            if (!made.containsKey(name)) {
                wrong++;
                System.out.println(name + " was never called");
            }
        }
        for (long error : new long[] {-101, -102, -103}) {
            if (!errors.containsKey(error)) {
                wrong++;
                System.out.println("no call returned " + error);
            }
        }
        System.out.println(runs + " random runs, " + wrong + " answers not as due");
        if (wrong != 0) {
            System.exit(1);
        }
    }

    private void oneRun(int seed) {
        random = new Random(seed);
        object = new CodedCaching();
        due = new Model();
        story = new StringBuilder();
        calls = 0;
        int before = wrong;
        if (random.nextInt(10) > 0) {
            call("reset", 1 + random.nextInt(5), 1 + random.nextInt(6), random.nextInt(61));
        }
        int style = random.nextInt(4);
        while (calls < CALLS - 1 && wrong == before) {
            step(style);
        }
        call("digest");
        if (wrong != before) {
            System.out.println("run " + seed + ":" + story);
        }
    }

    /** The styles make some limits likely: a full queue, a full history, full lists, many plans. */
    private void step(int style) {
        int dice = random.nextInt(100);
        if (dice < 3) {
            typeWords();
        } else if (dice < 5 && style == 1) {
            repeat("plan", 35);
        } else if (dice < 5 && style == 2) {
            repeat("sum", 105);
        } else if (dice < 6 && style >= 2) {
            repeat("send", 45);
        } else if (dice < 75) {
            callAny(LIKELY[random.nextInt(LIKELY.length)]);
        } else {
            String[] names = face.keySet().toArray(new String[0]);
            Arrays.sort(names);
            String name = names[random.nextInt(names.length)];
            boolean rare = name.equals("reset") || name.equals("restore");
            if (!rare || random.nextInt(6) == 0) {
                callAny(name);
            }
        }
    }

    private void repeat(String name, int times) {
        for (int i = 0; i < times; i++) {
            callAny(name);
        }
    }

    private void typeWords() {
        if (random.nextInt(3) > 0) {
            call("clearText");
        }
        int words = random.nextInt(12);
        for (int i = 0; i < words; i++) {
            for (char letter : WORDS[random.nextInt(WORDS.length)].toCharArray()) {
                call("type", random.nextInt(150) == 0 ? random.nextInt(130) : (int) letter);
            }
        }
        call("fault");
        call("run");
        call("why");
    }

    private void callAny(String name) {
        Class<?>[] types = face.get(name).getParameterTypes();
        Object[] arguments = new Object[types.length];
        for (int i = 0; i < types.length; i++) {
            if (types[i] == long.class) {
                arguments[i] = anySet();
            } else {
                arguments[i] = anyNumber(name, i);
            }
        }
        call(name, arguments);
    }

    private long anySet() {
        int pieces = 12 * due.count(0);
        switch (random.nextInt(40)) {
            case 0: return 0;
            case 1: return random.nextLong();
            case 2: return 1L << pieces;
            case 3: return (1L << pieces) - 1;
            default: break;
        }
        long set = 0;
        int size = 1 + random.nextInt(4);
        int span = random.nextBoolean() ? 8 : pieces;
        for (int i = 0; i < size; i++) {
            set |= 1L << random.nextInt(span);
        }
        return set;
    }

    private int anyNumber(String name, int place) {
        if (random.nextInt(60) == 0) {
            int[] odd = {-2, -1, 0, 60, 61, 64, 255, 256, Integer.MIN_VALUE, Integer.MAX_VALUE};
            return odd[random.nextInt(odd.length)];
        }
        int users = due.count(1);
        int pieces = 12 * due.count(0);
        switch (name) {
            case "reset": return place == 0 ? random.nextInt(7) : place == 1 ? random.nextInt(8) : random.nextInt(62);
            case "setContent": return place == 0 ? random.nextInt(pieces + 1) : random.nextInt(257);
            case "plan":
                if (place == 2) {
                    return random.nextInt(random.nextInt(10) == 0 ? 11 : 10);
                }
                return place == 0 ? random.nextInt(users) : random.nextInt(pieces);
            case "store": case "drop": case "cached": case "decode": case "proof":
                int near = random.nextInt(4) == 0 ? pieces + 1 : Math.min(pieces, 8);
                return place == 0 ? random.nextInt(users + (random.nextInt(20) == 0 ? 1 : 0)) : random.nextInt(near);
            case "want": return place == 0 ? random.nextInt(users) : random.nextInt(due.count(0) + 2) - 1;
            case "user": return place == 0 ? random.nextInt(users) : random.nextInt(9);
            case "storeSubsets": case "formula": return random.nextInt(users + 2);
            case "storeRandom": return 1 + random.nextInt(2147483646);
            case "idle": return random.nextInt(52);
            case "send": return random.nextInt(3) > 0 ? 0 : random.nextInt(66);
            case "schedule": return random.nextInt(5);
            case "resend": case "sent": return random.nextInt(due.count(4) + 2);
            case "pending": return random.nextInt(due.count(3) + 2);
            case "type": return random.nextInt(129);
            case "save": case "restore": return random.nextInt(20) == 0 ? 2 : random.nextInt(2);
            case "count": return random.nextInt(11);
            default: return random.nextInt(users + 1);
        }
    }

    private void call(String name, Object... arguments) {
        if (calls >= CALLS) {
            return;
        }
        calls++;
        made.merge(name, 1, Integer::sum);
        long want = ask(model.get(name), due, arguments);
        boolean refused = want == -101 || want == -102 || want == -103;
        String before = refused ? Shown.by(object) : "";
        long got = ask(face.get(name), object, arguments);
        story.append(' ').append(name).append(Arrays.toString(arguments)).append(" = ").append(got);
        if (got != want) {
            wrong++;
            story.append(", due is ").append(want);
        } else if (refused) {
            errors.merge(want, 1, Integer::sum);
            lookAgain(before);
        }
    }

    private void lookAgain(String before) {
        if (!Shown.by(object).equals(before)) {
            wrong++;
            story.append(", but it changed what the object shows");
        }
    }

    private static long ask(Method method, Object target, Object[] arguments) {
        try {
            return ((Number) method.invoke(target, arguments)).longValue();
        } catch (InvocationTargetException | IllegalAccessException e) {
            throw new IllegalStateException(method.getName(), e);
        }
    }
}
