import java.lang.reflect.Constructor;
import java.lang.reflect.Executable;
import java.lang.reflect.Field;
import java.lang.reflect.Method;
import java.lang.reflect.Modifier;
import java.util.ArrayList;
import java.util.Arrays;
import java.util.Collections;
import java.util.HashSet;
import java.util.List;
import java.util.Set;

/** The class has the document's face, and no other member that can be seen. */
public final class FaceTest {
    private static final String[] FACE = {
        "int station(int) throws IllegalArgumentException, IllegalStateException",
        "int setHours(int, int, int) throws IndexOutOfBoundsException, IllegalArgumentException",
        "int tube(int, int, int) throws IndexOutOfBoundsException, IllegalArgumentException, IllegalStateException",
        "char blow(int, char) throws IndexOutOfBoundsException, IllegalArgumentException, IllegalStateException",
        "int setTube(int, int, int) throws IndexOutOfBoundsException, IllegalArgumentException",
        "int setGap(int, int) throws IndexOutOfBoundsException, IllegalArgumentException",
        "int setPower(int) throws IllegalArgumentException",
        "int setWay(int, int, int) throws IndexOutOfBoundsException, IllegalArgumentException",
        "int wayOf(int, int) throws IndexOutOfBoundsException, NoSuchElementException",
        "int draught(int) throws IndexOutOfBoundsException",
        "int air(char) throws IllegalArgumentException",
        "int carrier(int) throws IndexOutOfBoundsException, IllegalStateException",
        "int dial(int, int) throws IndexOutOfBoundsException, IllegalStateException",
        "int grease(int) throws IndexOutOfBoundsException, IllegalStateException",
        "int wear(int, int) throws IndexOutOfBoundsException, IllegalArgumentException",
        "boolean order(int) throws IndexOutOfBoundsException",
        "int placeOf(int) throws IndexOutOfBoundsException",
        "int placeByLog(int) throws IndexOutOfBoundsException",
        "int dialOf(int) throws IndexOutOfBoundsException",
        "int weightOf(int) throws IndexOutOfBoundsException",
        "char why(int) throws IndexOutOfBoundsException",
        "int accept(int, int, int, int) throws IndexOutOfBoundsException, IllegalArgumentException, "
            + "NoSuchElementException, IllegalStateException",
        "char itemState(int) throws IndexOutOfBoundsException",
        "int stamp(int, boolean) throws IndexOutOfBoundsException, NoSuchElementException",
        "int claim(int) throws IndexOutOfBoundsException, NoSuchElementException, IllegalStateException",
        "long earned()",
        "int sound(int) throws IndexOutOfBoundsException, NoSuchElementException",
        "int pressure(int) throws IndexOutOfBoundsException, NoSuchElementException",
        "boolean dig(int, int) throws IndexOutOfBoundsException",
        "int pass(int) throws IllegalArgumentException",
        "int entries()",
        "char entryAt(int) throws IndexOutOfBoundsException",
        "int entryOf(int, char) throws IndexOutOfBoundsException, IllegalArgumentException",
        "float lateShare() throws ArithmeticException",
        "double meanTime() throws ArithmeticException",
        "boolean isSound()",
    };

    private FaceTest() {
    }

    public static void main(String[] args) {
        Class<?> face = Tubepost.class;
        Check.is("public and final", Modifier.PUBLIC | Modifier.FINAL, face.getModifiers());
        Check.is("no superclass of its own", Object.class, face.getSuperclass());
        Check.is("no interfaces", 0, face.getInterfaces().length);
        List<String> seen = new ArrayList<>();
        Set<String> names = new HashSet<>();
        for (Method method : face.getDeclaredMethods()) {
            if (!Modifier.isPrivate(method.getModifiers())) {
                Check.is(method + " is public alone", Modifier.PUBLIC, method.getModifiers());
                seen.add(told(method));
                names.add(method.getName());
            }
        }
        List<String> due = new ArrayList<>(Arrays.asList(FACE));
        Collections.sort(due);
        Collections.sort(seen);
        Check.is("the face", due, seen);
        Constructor<?>[] constructors = face.getDeclaredConstructors();
        Check.is("one constructor", 1, constructors.length);
        Check.is("it is public", Modifier.PUBLIC, constructors[0].getModifiers());
        Check.is("it takes nothing", 0, constructors[0].getParameterCount());
        fieldsAndClasses(face, names);
        Check.end();
    }

    private static void fieldsAndClasses(Class<?> face, Set<String> names) {
        for (Field field : face.getDeclaredFields()) {
            Check.is(field + " is private", true, Modifier.isPrivate(field.getModifiers()));
        }
        for (Method method : face.getDeclaredMethods()) {
            Check.is(method + " bears a face's name", Modifier.isPublic(method.getModifiers()),
                    names.contains(method.getName()));
        }
        Check.is("few classes", true, face.getDeclaredClasses().length <= 11);
        for (Class<?> inner : face.getDeclaredClasses()) {
            int modifiers = inner.getModifiers();
            Check.is(inner + " is hidden", false, Modifier.isPublic(modifiers) || Modifier.isProtected(modifiers));
            Check.is(inner + " is static", true, Modifier.isStatic(modifiers));
            for (Field field : inner.getDeclaredFields()) {
                boolean constant = Modifier.isFinal(field.getModifiers());
                Check.is(field + " is no static state", true, constant || !Modifier.isStatic(field.getModifiers()));
            }
            for (Method method : inner.getDeclaredMethods()) {
                Check.is(method + " bears a face's name", false, names.contains(method.getName()));
            }
        }
    }

    private static String told(Method method) {
        StringBuilder text = new StringBuilder(method.getReturnType().getSimpleName()).append(' ')
                .append(method.getName()).append('(').append(list(method.getParameterTypes())).append(')');
        return text.append(thrown(method)).toString();
    }

    private static String thrown(Executable method) {
        Class<?>[] kinds = method.getExceptionTypes();
        return kinds.length == 0 ? "" : " throws " + list(kinds);
    }

    private static String list(Class<?>[] kinds) {
        List<String> names = new ArrayList<>();
        for (Class<?> kind : kinds) {
            names.add(kind.getSimpleName());
        }
        return String.join(", ", names);
    }
}
