import java.lang.reflect.Constructor;
import java.lang.reflect.Field;
import java.lang.reflect.Method;
import java.lang.reflect.Modifier;
import java.util.Set;
import java.util.TreeSet;

/** The public face is the document's, and nothing beside it can be seen from outside. */
public final class FaceTest {
    private static final Answers ANSWERS = new Answers("FaceTest");

    private static final Set<String> FACE = Set.of(
        "int rule(int,int)", "int used(int,int,int)", "int guess(int)", "boolean drop()", "long cost(int)",
        "long sum(int)", "int cls(long,long)", "int grade()", "int rank()", "long gap(long)", "int stuck(int)",
        "int run()", "int hardest()", "boolean go(int)", "int hint(int)", "int keep()", "int compare(int)",
        "boolean same(int)");

    public static void main(String[] args) {
        int modifiers = GradeRows.class.getModifiers();
        ANSWERS.due("class is public", Modifier.isPublic(modifiers), true);
        ANSWERS.due("class is final", Modifier.isFinal(modifiers), true);
        methodsAreTheFace();
        constructorIsTheFace();
        for (Field field : GradeRows.class.getDeclaredFields()) {
            ANSWERS.due("private " + field.getName(), Modifier.isPrivate(field.getModifiers()), true);
            staticIsFinal(field);
        }
        for (Class<?> inside : GradeRows.class.getDeclaredClasses()) {
            ANSWERS.due("static " + inside.getName(), Modifier.isStatic(inside.getModifiers()), true);
            ANSWERS.due("not public " + inside.getName(), Modifier.isPublic(inside.getModifiers()), false);
            for (Field field : inside.getDeclaredFields()) {
                staticIsFinal(field);
            }
            privateNamesAreNotOfTheFace(inside);
        }
        ANSWERS.finish();
    }

    private static void methodsAreTheFace() {
        Set<String> seen = new TreeSet<>();
        Set<String> names = new TreeSet<>();
        for (Method method : GradeRows.class.getDeclaredMethods()) {
            if (Modifier.isPublic(method.getModifiers())) {
                seen.add(written(method));
                names.add(method.getName());
                ANSWERS.due("no throws " + method.getName(), method.getExceptionTypes().length, 0);
            }
        }
        for (Method method : GradeRows.class.getDeclaredMethods()) {
            if (!Modifier.isPublic(method.getModifiers())) {
                ANSWERS.due("private " + method.getName(), Modifier.isPrivate(method.getModifiers()), true);
                ANSWERS.due("own name " + method.getName(), names.contains(method.getName()), false);
            }
        }
        ANSWERS.due("the methods " + seen, seen.equals(FACE), true);
    }

    private static void privateNamesAreNotOfTheFace(Class<?> inside) {
        for (Method method : inside.getDeclaredMethods()) {
            boolean taken = FACE.stream().anyMatch(written -> written.contains(" " + method.getName() + "("));
            ANSWERS.due("own name " + inside.getName() + "." + method.getName(),
                Modifier.isPrivate(method.getModifiers()) && taken, false);
        }
    }

    private static void constructorIsTheFace() {
        Constructor<?>[] all = GradeRows.class.getDeclaredConstructors();
        ANSWERS.due("how many constructors", all.length, 1);
        ANSWERS.due("its parameters", all[0].getParameterCount(), 0);
        ANSWERS.due("it is public", Modifier.isPublic(all[0].getModifiers()), true);
    }

    private static void staticIsFinal(Field field) {
        int modifiers = field.getModifiers();
        ANSWERS.due("static is final " + field.getName(),
            Modifier.isStatic(modifiers) && !Modifier.isFinal(modifiers), false);
    }

    private static String written(Method method) {
        StringBuilder text = new StringBuilder();
        text.append(method.getReturnType().getName()).append(' ').append(method.getName()).append('(');
        for (Class<?> type : method.getParameterTypes()) {
            text.append(text.charAt(text.length() - 1) == '(' ? "" : ",").append(type.getName());
        }
        return text.append(')').toString();
    }
}
