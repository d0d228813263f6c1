import java.lang.reflect.Constructor;
import java.lang.reflect.Field;
import java.lang.reflect.Method;
import java.lang.reflect.Modifier;
import java.util.Arrays;
import java.util.Set;
import java.util.TreeSet;

/** The public face: every constant, constructor and method of the document, and nothing else. */
public final class FaceTest {
    private static final Set<String> FACE = Set.of(
            "public boolean begin(int, int, int, int)",
            "public int access(int, boolean)",
            "public int flush()",
            "public boolean resident(int, int)",
            "public boolean dirty(int, int)",
            "public boolean marked(int, int)",
            "public int row(int, int, int)",
            "public int goal(int)",
            "public int count(int, int)",
            "public int reads()",
            "public int writes()");

    public static void main(String[] args) {
        Due due = new Due();
        Class<TwoTierCache> type = TwoTierCache.class;
        due.is("the class is public and final", type.getModifiers(),
                Modifier.PUBLIC | Modifier.FINAL);
        due.is("NONE", TwoTierCache.NONE, -1);
        methodsAreTheFace(due, type);
        fieldsAreTheFace(due, type);
        constructorIsTheFace(due, type);
        stateIsNotStatic(due);
        due.end();
    }

    private static void methodsAreTheFace(Due due, Class<?> type) {
        Set<String> open = new TreeSet<>();
        Set<String> openNames = new TreeSet<>();
        for (Method method : type.getDeclaredMethods()) {
            if (!Modifier.isPrivate(method.getModifiers())) {
                open.add(told(method));
                openNames.add(method.getName());
            }
        }
        due.is("methods " + open, open.equals(FACE), true);
        for (Method method : type.getDeclaredMethods()) {
            if (Modifier.isPrivate(method.getModifiers())) {
                due.is("private " + method, openNames.contains(method.getName()), false);
            }
        }
    }

    private static String told(Method method) {
        StringBuilder text = new StringBuilder(Modifier.toString(method.getModifiers()));
        text.append(' ').append(method.getReturnType().getName());
        text.append(' ').append(method.getName()).append('(');
        String between = "";
        for (Class<?> parameter : method.getParameterTypes()) {
            text.append(between).append(parameter.getName());
            between = ", ";
        }
        return text.append(')').toString();
    }

    private static void fieldsAreTheFace(Due due, Class<?> type) {
        int open = 0;
        for (Field field : type.getDeclaredFields()) {
            if (!Modifier.isPrivate(field.getModifiers())) {
                open++;
                due.is("field " + field, field.toString()
                        .equals("public static final int TwoTierCache.NONE"), true);
            }
        }
        due.is("open fields", open, 1);
    }

    private static void constructorIsTheFace(Due due, Class<?> type) {
        Constructor<?>[] all = type.getDeclaredConstructors();
        due.is("constructors " + Arrays.toString(all), all.length, 1);
        due.is("parameters", all[0].getParameterCount(), 0);
        due.is("the constructor is public", all[0].getModifiers(), Modifier.PUBLIC);
    }

    private static void stateIsNotStatic(Due due) {
        TwoTierCache one = new TwoTierCache();
        TwoTierCache other = new TwoTierCache();
        one.begin(1, 2, 3, 2);
        Due.write(one, 1, 1, 2, 3);
        due.residents(other, 0);
        due.residents(other, 1);
        due.dirtyPages(other, 0);
        due.counts(other, 1, 0, 0, 0);
        due.is("goal(1)", other.goal(1), TwoTierCache.NONE);
        due.is("reads()", other.reads(), 0);
    }
}
