import java.lang.reflect.Constructor;
import java.lang.reflect.Field;
import java.lang.reflect.Method;
import java.lang.reflect.Modifier;
import java.util.ArrayList;
import java.util.List;
import java.util.Set;
import java.util.TreeSet;

/** The class has just the document's public members, and otherwise private ones by other names. */
public final class FaceTest {
    private static final Check CHECK = new Check("FaceTest");
    private static final String I = "IndexOutOfBoundsException";
    private static final String A = "IllegalArgumentException";
    private static final String S = "IllegalStateException";
    private static final String[] FACE = {
        "void setRates(int, int, int) " + I + " " + A,
        "void setMargins(int, int, int, int) " + I + " " + A,
        "void setEqual(int, int) " + A,
        "int shift(int, int, int, int) " + I + " " + A + " " + S,
        "int correct(int, int) " + I + " " + A + " " + S,
        "int shifts()",
        "int hours(int, int) " + I,
        "int overtime(int) " + I,
        "boolean hasEqual(int, int, int) " + I,
        "int payOf(int) " + I,
        "int chargeOf(int) " + I,
        "int pay(int, int) " + I,
        "int payByHours(int, int) " + I,
        "int run(int) " + I,
        "int paid(int, int) " + I,
        "int billed(int, int) " + I,
        "int owing(int, int) " + I,
        "int toBill(int, int) " + I,
        "int takeHoliday(int, int) " + I + " " + A + " " + S,
        "int holiday(int) " + I,
    };

    private FaceTest() {
    }

    public static void main(String[] args) {
        Class<?> house = AssignmentHouse.class;
        CHECK.holds("the class is public and final",
                Modifier.isPublic(house.getModifiers()) && Modifier.isFinal(house.getModifiers()));
        constructors(house);
        methods(house);
        fields(house);
        CHECK.end();
    }

    private static void constructors(Class<?> house) {
        Constructor<?>[] all = house.getDeclaredConstructors();
        CHECK.same("constructors", all.length, 1);
        CHECK.holds("the constructor is public and takes nothing",
                Modifier.isPublic(all[0].getModifiers()) && all[0].getParameterCount() == 0);
    }

    private static void methods(Class<?> house) {
        Set<String> shown = new TreeSet<>();
        Set<String> shownNames = new TreeSet<>();
        List<String> hiddenNames = new ArrayList<>();
        for (Method method : house.getDeclaredMethods()) {
            if (Modifier.isPublic(method.getModifiers())) {
                shown.add(told(method));
                shownNames.add(method.getName());
            } else {
                CHECK.holds(method + " is private", Modifier.isPrivate(method.getModifiers()));
                hiddenNames.add(method.getName());
            }
            CHECK.holds(method + " takes at most seven", method.getParameterCount() <= 7);
        }
        CHECK.same("the face", shown.toString(), new TreeSet<>(List.of(FACE)).toString());
        for (String name : hiddenNames) {
            CHECK.holds(name + " is no public name", !shownNames.contains(name));
        }
    }

    private static String told(Method method) {
        StringBuilder text = new StringBuilder();
        text.append(method.getReturnType().getSimpleName()).append(' ').append(method.getName()).append('(');
        String between = "";
        for (Class<?> type : method.getParameterTypes()) {
            text.append(between).append(type.getSimpleName());
            between = ", ";
        }
        text.append(')');
        for (Class<?> thrown : method.getExceptionTypes()) {
            text.append(' ').append(thrown.getSimpleName());
        }
        return text.toString();
    }

    private static void fields(Class<?> house) {
        int own = 0;
        for (Field field : house.getDeclaredFields()) {
            CHECK.holds(field + " is private", Modifier.isPrivate(field.getModifiers()));
            if (Modifier.isStatic(field.getModifiers())) {
                CHECK.holds(field + " is final", Modifier.isFinal(field.getModifiers()));
            } else {
                own++;
            }
        }
        CHECK.holds("a class has some twenty fields", own <= 20);
    }
}
