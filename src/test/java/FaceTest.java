import java.lang.reflect.Constructor;
import java.lang.reflect.Field;
import java.lang.reflect.InvocationTargetException;
import java.lang.reflect.Method;
import java.lang.reflect.Modifier;
import java.util.Arrays;
import java.util.Comparator;
import java.util.Set;
import java.util.TreeSet;

/** The public face (rule 1), static state (rule 5), and calls that never throw (rule 7). */
public final class FaceTest {
    /** In the order of their texts, so that each run of the test makes the same calls. */
    private static final Method[] CALLS = callsInOrder();

    public static void main(String[] args) throws ReflectiveOperationException {
        Due due = new Due();
        faceIsTheDocuments(due);
        callsAreTheDocuments(due);
        noneIsTheDocuments(due);
        staticsAreFinal(due);
        extremesNeverThrow(due);
        due.end();
    }

    private static void faceIsTheDocuments(Due due) {
        Class<?> face = AbendRows.class;
        due.is("class modifiers", face.getModifiers(), Modifier.PUBLIC | Modifier.FINAL);
        Constructor<?>[] constructors = face.getDeclaredConstructors();
        due.is("constructors", constructors.length, 1);
        due.is("constructor's parameters", constructors[0].getParameterCount(), 0);
        due.holds("constructor is public", Modifier.isPublic(constructors[0].getModifiers()));
        Set<String> open = new TreeSet<>();
        Set<String> hidden = new TreeSet<>();
        for (Method method : face.getDeclaredMethods()) {
            due.holds(method + " is public or private", (method.getModifiers() & (Modifier.PUBLIC | Modifier.PRIVATE)) != 0);
            (Modifier.isPublic(method.getModifiers()) ? open : hidden).add(method.getName());
            due.holds(method + " has at most seven parameters", method.getParameterCount() <= 7);
        }
        hidden.retainAll(open);
        due.holds("private methods named like public ones " + hidden, hidden.isEmpty());
    }

    private static void callsAreTheDocuments(Due due) {
        Set<String> wanted = Set.of(
            "public int AbendRows.level(int)",
            "public int AbendRows.exit(int,int,boolean)",
            "public int AbendRows.abend(int,int)",
            "public int AbendRows.order(int)",
            "public int AbendRows.cancel(int)",
            "public int AbendRows.restart(int,int)",
            "public int AbendRows.guard(int,int)",
            "public int AbendRows.write(int,int)",
            "public int AbendRows.free(int)",
            "public int AbendRows.dump(int,int,int)",
            "public int AbendRows.loop(int,long)",
            "public int AbendRows.suppress(int,boolean)",
            "public int AbendRows.count(int)",
            "public int AbendRows.region(int)",
            "public int AbendRows.told(int,int)");
        Set<String> shown = new TreeSet<>();
        for (Method call : CALLS) {
            shown.add(call.toString());
        }
        due.holds("public methods " + shown, shown.equals(wanted));
    }

    private static void noneIsTheDocuments(Due due) throws ReflectiveOperationException {
        Field none = AbendRows.class.getDeclaredField("NONE");
        due.holds(none + " is as the document's", none.toString().equals("public static final int AbendRows.NONE"));
        due.is("NONE", none.getInt(null), -1);
    }

    private static void staticsAreFinal(Due due) {
        for (Field field : AbendRows.class.getDeclaredFields()) {
            boolean isPublic = field.getName().equals("NONE");
            due.is(field + " is public", Modifier.isPublic(field.getModifiers()) ? 1 : 0, isPublic ? 1 : 0);
            due.holds(field + " is public or private", isPublic || Modifier.isPrivate(field.getModifiers()));
            due.holds(field + " is no static state",
                !Modifier.isStatic(field.getModifiers()) || Modifier.isFinal(field.getModifiers()));
        }
        due.holds("at most twelve classes", AbendRows.class.getDeclaredClasses().length < 12);
        for (Class<?> inside : AbendRows.class.getDeclaredClasses()) {
            due.holds(inside + " is static", Modifier.isStatic(inside.getModifiers()));
            due.holds(inside + " is not public", !Modifier.isPublic(inside.getModifiers()));
        }
    }

    /** Far more calls than the promised 512, each with arguments at and beyond every edge. */
    private static void extremesNeverThrow(Due due) throws IllegalAccessException {
        int[] edges = {
            Integer.MIN_VALUE, -10000, -2, -1, 0, 1, 2, 3, 4, 10, 20, 40, 41, 60, 61, 64, 65, 99, 100, 101, 199, 200,
            300, 511, 512, 999, 1000, 9999, 10000, Integer.MAX_VALUE,
        };
        AbendRows x = new AbendRows();
        for (int round = 0; round < 40; round++) {
            for (int a : edges) {
                for (int b : edges) {
                    callAll(x, a, b, edges[(round * 7 + 3) % edges.length], round % 2 == 0);
                }
            }
        }
        due.holds("every call ended without a throw", true);
    }

    private static void callAll(AbendRows x, int a, int b, int c, boolean flag) throws IllegalAccessException {
        for (Method method : CALLS) {
            Object[] given = new Object[method.getParameterCount()];
            int[] numbers = {a, b, c};
            for (int k = 0; k < given.length; k++) {
                Class<?> type = method.getParameterTypes()[k];
                given[k] = type == boolean.class ? (Object) flag
                    : type == long.class ? (Object) (numbers[k] * 4294967297L) : (Object) numbers[k];
            }
            call(method, x, given);
        }
    }

    private static void call(Method method, AbendRows x, Object[] given) throws IllegalAccessException {
        try {
            method.invoke(x, given);
        } catch (InvocationTargetException thrown) {
            throw new IllegalStateException(method.getName() + Arrays.toString(given), thrown.getCause());
        }
    }

    private static Method[] callsInOrder() {
        return Arrays.stream(AbendRows.class.getDeclaredMethods())
            .filter(m -> Modifier.isPublic(m.getModifiers()))
            .sorted(Comparator.comparing(Method::toString))
            .toArray(Method[]::new);
    }
}
