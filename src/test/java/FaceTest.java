import java.lang.reflect.Constructor;
import java.lang.reflect.Field;
import java.lang.reflect.Method;
import java.lang.reflect.Modifier;
import java.util.Set;
import java.util.TreeSet;

/** The members that others can reach are those of the document's public face, and no others. */
public final class FaceTest {
    private static final String[] FACE = {
        "int at()",
        "int begin(int) IllegalStateException IndexOutOfBoundsException",
        "int distance(int,int) IndexOutOfBoundsException",
        "int distanceByRounds(int,int) IndexOutOfBoundsException",
        "int edit(int,int,int) IllegalArgumentException IndexOutOfBoundsException",
        "int end(boolean) IllegalStateException",
        "int form(int) IndexOutOfBoundsException",
        "int hint(int) IllegalStateException IndexOutOfBoundsException NoSuchElementException",
        "int lead(int) IndexOutOfBoundsException NoSuchElementException",
        "int met()",
        "int nearest(int) IndexOutOfBoundsException NoSuchElementException",
        "int neighbours(int) IndexOutOfBoundsException",
        "int pass(int) IllegalStateException IndexOutOfBoundsException",
        "int passings(int,int) IndexOutOfBoundsException",
        "boolean isRight(int) IndexOutOfBoundsException",
        "int steps(int) IndexOutOfBoundsException NoSuchElementException",
        "int worth(int) IndexOutOfBoundsException",
    };
    private static int wrong = 0;

    private static void due(String what, Object got, Object want) {
        if (!got.equals(want)) {
            wrong++;
            System.out.println(what + " is " + got + ", due is " + want);
        }
    }

    private static String told(Method method) {
        StringBuilder text = new StringBuilder(method.getReturnType().getSimpleName());
        text.append(' ').append(method.getName()).append('(');
        String comma = "";
        for (Class<?> type : method.getParameterTypes()) {
            text.append(comma).append(type.getSimpleName());
            comma = ",";
        }
        text.append(')');
        Set<String> thrown = new TreeSet<>();
        for (Class<?> type : method.getExceptionTypes()) {
            thrown.add(type.getSimpleName());
        }
        for (String name : thrown) {
            text.append(' ').append(name);
        }
        return text.toString();
    }

    private static void checkMethods() {
        Set<String> publicOnes = new TreeSet<>();
        Set<String> publicNames = new TreeSet<>();
        for (Method method : Nudgelane.class.getDeclaredMethods()) {
            if (Modifier.isPublic(method.getModifiers())) {
                due(method.getName() + " static", Modifier.isStatic(method.getModifiers()), false);
                publicOnes.add(told(method));
                publicNames.add(method.getName());
            }
        }
        due("the face", publicOnes, new TreeSet<>(Set.of(FACE)));
        for (Method method : Nudgelane.class.getDeclaredMethods()) {
            if (!Modifier.isPublic(method.getModifiers()) && !method.isSynthetic()) {
                due(method.getName() + " private", Modifier.isPrivate(method.getModifiers()), true);
                due(method.getName() + " bears a public name", publicNames.contains(method.getName()), false);
            }
        }
    }

    private static void checkFields() throws IllegalAccessException {
        for (Field field : Nudgelane.class.getDeclaredFields()) {
            boolean isNone = field.getName().equals("NONE");
            due(field.getName() + " public", Modifier.isPublic(field.getModifiers()), isNone);
            due(field.getName() + " private", Modifier.isPrivate(field.getModifiers()), !isNone);
            if (isNone) {
                due("NONE static", Modifier.isStatic(field.getModifiers()), true);
                due("NONE final", Modifier.isFinal(field.getModifiers()), true);
                due("NONE's type", field.getType(), int.class);
                due("NONE", field.getInt(null), -1);
            }
        }
    }

    private static void checkClasses() {
        due("public class", Modifier.isPublic(Nudgelane.class.getModifiers()), true);
        due("final class", Modifier.isFinal(Nudgelane.class.getModifiers()), true);
        due("super class", Nudgelane.class.getSuperclass(), Object.class);
        due("constructors", Nudgelane.class.getDeclaredConstructors().length, 1);
        for (Constructor<?> constructor : Nudgelane.class.getDeclaredConstructors()) {
            due("public constructor", Modifier.isPublic(constructor.getModifiers()), true);
            due("parameters of the constructor", constructor.getParameterCount(), 0);
        }
        for (Class<?> inside : Nudgelane.class.getDeclaredClasses()) {
            due(inside + " static", Modifier.isStatic(inside.getModifiers()), true);
            due(inside + " public", Modifier.isPublic(inside.getModifiers()), false);
        }
    }

    public static void main(String[] args) throws IllegalAccessException {
        checkClasses();
        checkFields();
        checkMethods();
        System.out.println(wrong == 0 ? "the face is as due" : wrong + " things are not as due");
        if (wrong != 0) {
            System.exit(1);
        }
    }
}
