import java.lang.reflect.Constructor;
import java.lang.reflect.Field;
import java.lang.reflect.Method;
import java.lang.reflect.Modifier;
import java.util.Arrays;
import java.util.Set;
import java.util.TreeSet;

/** The public face, and what LANGUAGE.md says of members that can be seen from outside the source. */
public final class FaceTest {
    private static final String[] FACE = {
        "int cast(int, int) IndexOutOfBoundsException IllegalArgumentException IllegalStateException",
        "int melt(int) IllegalArgumentException IllegalStateException",
        "int buy(int) IllegalArgumentException IllegalStateException",
        "int come(int) IllegalArgumentException IllegalStateException",
        "int rent(int, int, int) IndexOutOfBoundsException IllegalArgumentException IllegalStateException",
        "int giveBack(int, int, int) IndexOutOfBoundsException IllegalArgumentException IllegalStateException",
        "int pay(int) IndexOutOfBoundsException",
        "int set(int, int) IndexOutOfBoundsException IllegalArgumentException IllegalStateException",
        "int print(int, int) IndexOutOfBoundsException IllegalArgumentException IllegalStateException",
        "int distribute(int) IndexOutOfBoundsException",
        "int pass(int) IllegalArgumentException",
        "int sorts(int, int, int) IndexOutOfBoundsException",
        "int printer(int, int) IndexOutOfBoundsException",
        "int count(int) IndexOutOfBoundsException",
        "int takes(int, int) IndexOutOfBoundsException IllegalArgumentException",
        "int lacks(int, int) IndexOutOfBoundsException IllegalArgumentException",
        "int bears(int) IndexOutOfBoundsException",
        "int saves(int, int) IllegalArgumentException",
        "int times(int, int) IndexOutOfBoundsException IllegalArgumentException",
        "double mean()",
        "long digest()"};

    public static void main(String[] args) {
        Checks.holds(0, "public final class TypeFoundry {");
        Class<?> type = TypeFoundry.class;
        Checks.due("public and final", Modifier.PUBLIC | Modifier.FINAL, type::getModifiers);
        Constructor<?>[] constructors = type.getDeclaredConstructors();
        Checks.due("constructors", 1, () -> constructors.length);
        Checks.due("public constructor", Modifier.PUBLIC, () -> constructors[0].getModifiers());
        Set<String> publicNames = new TreeSet<>();
        Set<String> face = new TreeSet<>();
        for (Method method : type.getDeclaredMethods()) {
            if (Modifier.isPrivate(method.getModifiers())) {
                continue;
            }
            Checks.due(method.getName() + " is public", Modifier.PUBLIC, method::getModifiers);
            publicNames.add(method.getName());
            face.add(told(method));
        }
        Checks.due("the face", new TreeSet<>(Arrays.asList(FACE)), () -> face);
        for (Method method : type.getDeclaredMethods()) {
            if (Modifier.isPrivate(method.getModifiers())) {
                Checks.due(method.getName() + " is no public name", false, () -> publicNames.contains(method.getName()));
            }
        }
        fields(type, true);
        for (Class<?> inside : type.getDeclaredClasses()) {
            Checks.due(inside.getName() + " is static", true, () -> Modifier.isStatic(inside.getModifiers()));
            Checks.due(inside.getName() + " is not public", false, () -> Modifier.isPublic(inside.getModifiers()));
            fields(inside, false);
        }
        Checks.end("FaceTest");
    }

    private static String told(Method method) {
        StringBuilder text = new StringBuilder();
        text.append(method.getReturnType().getSimpleName()).append(' ').append(method.getName()).append('(');
        for (Class<?> parameter : method.getParameterTypes()) {
            text.append(text.charAt(text.length() - 1) == '(' ? "" : ", ").append(parameter.getSimpleName());
        }
        text.append(')');
        for (Class<?> thrown : method.getExceptionTypes()) {
            text.append(' ').append(thrown.getSimpleName());
        }
        return text.toString();
    }

    private static void fields(Class<?> type, boolean allPrivate) {
        for (Field field : type.getDeclaredFields()) {
            int modifiers = field.getModifiers();
            Checks.due(field + " is private", true, () -> !allPrivate || Modifier.isPrivate(modifiers));
            Checks.due(field + " is no static variable", true, () -> !Modifier.isStatic(modifiers) || Modifier.isFinal(modifiers));
        }
    }
}
