import java.lang.reflect.Constructor;
import java.lang.reflect.Field;
import java.lang.reflect.Method;
import java.lang.reflect.Modifier;
import java.util.Arrays;
import java.util.HashSet;
import java.util.Set;
import java.util.TreeSet;

/** The public face, as the document and rules 1, 5 and 11 of LANGUAGE.md have it. */
public final class FaceTest {
    private static final String[] FACE = {
        "long field(long) IllegalArgumentException",
        "long times(long,long)",
        "long power(long,long) IllegalArgumentException",
        "long inverse(long) IllegalArgumentException",
        "boolean put(int,int,long) IndexOutOfBoundsException",
        "long get(int,int) IndexOutOfBoundsException",
        "int length(int) IndexOutOfBoundsException",
        "void turn(int,int,boolean) IndexOutOfBoundsException IllegalArgumentException",
        "int product(int,int,int) IndexOutOfBoundsException UnsupportedOperationException",
        "long at(int,long) IndexOutOfBoundsException",
        "boolean word(int,int,long) IndexOutOfBoundsException",
        "long wordAt(int,int) IndexOutOfBoundsException",
        "int size(int) IndexOutOfBoundsException",
        "int multiply(int,int,int) IndexOutOfBoundsException UnsupportedOperationException",
        "int sum(int,int,int) IndexOutOfBoundsException UnsupportedOperationException"};

    public static void main(String[] args) {
        Class<?> face = WheelProducts.class;
        Checks.sentence("The public face: its methods", () -> methods(face));
        Checks.sentence("The public face: its constant", () -> fields(face));
        Checks.sentence("The public face: its class and constructor", () -> madeBy(face));
        Checks.end();
    }

    private static void madeBy(Class<?> face) {
        Checks.same("public and final", face.getModifiers(), Modifier.PUBLIC | Modifier.FINAL);
        Constructor<?>[] constructors = face.getDeclaredConstructors();
        Checks.same("constructors", constructors.length, 1);
        Checks.same("constructor is public", constructors[0].getModifiers(), Modifier.PUBLIC);
        Checks.same("constructor's parameters", constructors[0].getParameterCount(), 0);
    }

    private static void methods(Class<?> face) {
        Set<String> shown = new TreeSet<>();
        Set<String> shownNames = new HashSet<>();
        Set<String> hiddenNames = new HashSet<>();
        for (Method method : face.getDeclaredMethods()) {
            if (Modifier.isPrivate(method.getModifiers())) {
                hiddenNames.add(method.getName());
            } else {
                Checks.same(method.getName() + " is public alone", method.getModifiers(), Modifier.PUBLIC);
                shown.add(told(method));
                shownNames.add(method.getName());
            }
            Checks.same(method.getName() + " has few parameters", method.getParameterCount() <= 7, true);
        }
        Set<String> due = new TreeSet<>(Arrays.asList(FACE));
        Checks.same("methods " + shown + " are those due", shown.equals(due), true);
        hiddenNames.retainAll(shownNames);
        Checks.same("private methods with a public name " + hiddenNames, hiddenNames.size(), 0);
    }

    private static String told(Method method) {
        StringBuilder text = new StringBuilder();
        text.append(method.getReturnType().getSimpleName()).append(' ').append(method.getName()).append('(');
        String comma = "";
        for (Class<?> type : method.getParameterTypes()) {
            text.append(comma).append(type.getSimpleName());
            comma = ",";
        }
        text.append(')');
        for (Class<?> type : method.getExceptionTypes()) {
            text.append(' ').append(type.getSimpleName());
        }
        return text.toString();
    }

    private static void fields(Class<?> face) {
        boolean found = false;
        for (Field field : face.getDeclaredFields()) {
            int modifiers = field.getModifiers();
            if (field.getName().equals("NONE")) {
                found = true;
                Checks.same("NONE", modifiers, Modifier.PUBLIC | Modifier.STATIC | Modifier.FINAL);
                Checks.same("NONE is an int", field.getType() == int.class, true);
                Checks.same("NONE is -1", WheelProducts.NONE, -1);
            } else {
                Checks.same(field.getName() + " is private", Modifier.isPrivate(modifiers), true);
            }
            boolean kept = Modifier.isStatic(modifiers) && !Modifier.isFinal(modifiers);
            Checks.same(field.getName() + " is static state", kept, false);
        }
        Checks.same("NONE is there", found, true);
    }
}
