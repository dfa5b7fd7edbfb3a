import java.lang.reflect.Constructor;
import java.lang.reflect.Field;
import java.lang.reflect.Method;
import java.lang.reflect.Modifier;
import java.util.Map;
import java.util.TreeMap;

/** The public face: the class, its constants, its constructor, its methods, and nothing else to be seen. */
public final class FaceTest {
    private static final String FACE = """
            int phrase(); int act(int, int, int); int line(int, int); int touch(int);
            int fencer(int, int, int); int seed(int, int); int bout(int, int, int, int, int, int);
            int event(int, int, int, int); int end(int); int walkover(int, int); int tear(int, boolean);
            int about(int, int); int pool(int); int indicator(int, int, int); int order(int, int);
            int write(int, int); int erase(int); int fault(int); long tells(int, int, int);
            int beside(int, int, int); int hangs(int); int ladder(int, int, int); int apart(int, int, int);
            int referee(int, int); int service(int, int); int serve(int); int hours(int);
            int pair(int, int, int, int); int relay(int, int); int bestOrder(); int judged(int, int, int, int);
            int habit(int, int); int result(int, int, int, int); int counted(int); int ranking(int, int, int, int);
            int image(int); int from(int); int count(int); long digest();
            """;
    private static final Check check = new Check();

    public static void main(String[] args) throws IllegalAccessException {
        Class<?> face = TouchLeague.class;
        check.holds("public and final", Modifier.isPublic(face.getModifiers()) && Modifier.isFinal(face.getModifiers()));
        methods(face);
        constants(face);
        Constructor<?>[] made = face.getDeclaredConstructors();
        check.due("constructors", made.length, 1);
        check.due("its parameters", made[0].getParameterCount(), 0);
        check.holds("it is public", Modifier.isPublic(made[0].getModifiers()));
        for (Class<?> inside : face.getDeclaredClasses()) {
            check.holds(inside + " is static", Modifier.isStatic(inside.getModifiers()));
            check.holds(inside + " is not public", !Modifier.isPublic(inside.getModifiers()));
            for (Method method : inside.getDeclaredMethods()) {
                check.holds(method + " has a name of its own", !FACE.contains(" " + method.getName() + "("));
            }
        }
        check.finish();
    }

    private static void methods(Class<?> face) {
        Map<String, Boolean> due = new TreeMap<>();
        for (String method : FACE.replace("\n", " ").split(";")) {
            if (!method.isBlank()) {
                due.put(method.strip().replaceAll(" +", " "), true);
            }
        }
        check.due("methods told", due.size(), 39);
        for (Method method : face.getDeclaredMethods()) {
            StringBuilder text = new StringBuilder();
            for (Class<?> parameter : method.getParameterTypes()) {
                text.append(text.length() == 0 ? "" : ", ").append(parameter.getName());
            }
            String told = method.getReturnType().getName() + " " + method.getName() + "(" + text + ")";
            if (Modifier.isPublic(method.getModifiers())) {
                check.holds(told + " is of the face", due.remove(told) != null && !Modifier.isStatic(method.getModifiers()));
            } else {
                check.holds(told + " is private", Modifier.isPrivate(method.getModifiers()));
            }
        }
        check.holds("these are missing: " + due.keySet(), due.isEmpty());
    }

    private static void constants(Class<?> face) throws IllegalAccessException {
        Map<String, Integer> due = new TreeMap<>(Map.of("NONE", -1, "BAD", -2, "NO", -3, "FULL", -4));
        for (Field field : face.getDeclaredFields()) {
            if (Modifier.isPrivate(field.getModifiers())) {
                continue;
            }
            Integer want = due.remove(field.getName());
            check.holds(field + " is of the face", want != null);
            check.due(field.getName(), field.getInt(null), want == null ? 0 : want);
            check.holds(field + " is public static final", Modifier.isPublic(field.getModifiers())
                    && Modifier.isStatic(field.getModifiers()) && Modifier.isFinal(field.getModifiers()));
        }
        check.holds("these are missing: " + due.keySet(), due.isEmpty());
    }
}
