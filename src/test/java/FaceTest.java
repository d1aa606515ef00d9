import java.lang.reflect.Constructor;
import java.lang.reflect.Field;
import java.lang.reflect.Member;
import java.lang.reflect.Method;
import java.lang.reflect.Modifier;
import java.util.Arrays;
import java.util.Set;
import java.util.TreeSet;
import java.util.stream.Collectors;

/** The public face: every constant, constructor and method of the document, and no other member to be seen. */
public final class FaceTest {
    private static final String METHODS = "int reset(int,int,int); int setContent(int,int); int store(int,int);"
            + " int drop(int,int); int storeSubsets(int); int storeRandom(int); int plan(int,int,int); int idle(int);"
            + " int cached(int,int); int want(int,int); int leave(int); int join(int); int sum(long); int schedule(int);"
            + " int send(int); int resend(int); long pending(int); long sent(int); int user(int,int); int decode(int,int);"
            + " long proof(int,int); int need(int); int bound(); int rate(); int formula(int); int sharedRate();"
            + " int type(int); int clearText(); int fault(); int run(); int why(); int save(int); int restore(int);"
            + " int count(int); long digest()";

    public static void main(String[] args) {
        constants();
        members();
        privateNames();
        nestedClasses();
        Run.end();
    }

    private static void constants() {
        new Run("constants").due("BAD", CodedCaching.BAD, -101).due("STATE", CodedCaching.STATE, -102)
                .due("FULL", CodedCaching.FULL, -103).due("NONE", CodedCaching.NONE, -1);
    }

    private static void members() {
        Class<?> type = CodedCaching.class;
        check(Modifier.isPublic(type.getModifiers()) && Modifier.isFinal(type.getModifiers()), "public and final");
        Set<String> methods = Arrays.stream(type.getDeclaredMethods()).filter(FaceTest::isSeen)
                .map(FaceTest::describe).collect(Collectors.toCollection(TreeSet::new));
        Set<String> due = new TreeSet<>(Arrays.asList(METHODS.split("; ?")));
        check(methods.equals(due), "the methods are " + methods);
        Set<String> fields = Arrays.stream(type.getDeclaredFields()).filter(FaceTest::isSeen)
                .map(Field::getName).collect(Collectors.toCollection(TreeSet::new));
        check(fields.equals(Set.of("BAD", "STATE", "FULL", "NONE")), "the fields are " + fields);
        Constructor<?>[] constructors = type.getDeclaredConstructors();
        check(constructors.length == 1 && constructors[0].getParameterCount() == 0
                && Modifier.isPublic(constructors[0].getModifiers()), "one public constructor");
    }

    private static boolean isSeen(Member member) {
        return !Modifier.isPrivate(member.getModifiers()) && !member.isSynthetic();
    }

    private static String describe(Method method) {
        return method.getReturnType() + " " + method.getName() + Arrays.stream(method.getParameterTypes())
                .map(Class::getName).collect(Collectors.joining(",", "(", ")"));
    }

    private static void privateNames() {
        Set<String> seen = Arrays.stream(CodedCaching.class.getDeclaredMethods()).filter(FaceTest::isSeen)
                .map(Method::getName).collect(Collectors.toSet());
        for (Method method : CodedCaching.class.getDeclaredMethods()) {
            check(isSeen(method) || !seen.contains(method.getName()), "private " + method.getName());
        }
        for (Class<?> inside : CodedCaching.class.getDeclaredClasses()) {
            for (Method method : inside.getDeclaredMethods()) {
                check(!seen.contains(method.getName()), inside.getName() + "." + method.getName());
            }
        }
    }

    private static void nestedClasses() {
        Class<?>[] classes = CodedCaching.class.getDeclaredClasses();
        check(classes.length <= 11, "some twelve classes");
        for (Class<?> inside : classes) {
            int modifiers = inside.getModifiers();
            check(Modifier.isStatic(modifiers) && !Modifier.isPublic(modifiers) && !Modifier.isProtected(modifiers),
                    inside.getName() + " is static and not public");
            long fields = Arrays.stream(inside.getDeclaredFields()).filter(f -> !Modifier.isStatic(f.getModifiers())).count();
            check(fields <= 20, inside.getName() + " has " + fields + " fields");
        }
    }

    private static void check(boolean holds, String what) {
        if (!holds) {
            Run.complain("face: " + what);
        }
    }
}
