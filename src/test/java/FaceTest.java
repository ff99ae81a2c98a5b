import java.lang.reflect.Constructor;
import java.lang.reflect.Field;
import java.lang.reflect.Method;
import java.lang.reflect.Modifier;
import java.util.Arrays;
import java.util.TreeSet;

/** The public face is the document's, and every other member is private. */
public final class FaceTest {
    private static final String[] METHODS = {
        "int object(boolean) UnsupportedOperationException",
        "int put(int int int) NoSuchElementException IndexOutOfBoundsException IllegalStateException",
        "int get(int int) NoSuchElementException IndexOutOfBoundsException",
        "int save() UnsupportedOperationException",
        "int restore(int)",
        "int state(int int) NoSuchElementException IndexOutOfBoundsException",
        "int stateOf(int) IndexOutOfBoundsException",
        "int push() UnsupportedOperationException",
        "int pop()",
        "int bytes(int int int) NoSuchElementException IndexOutOfBoundsException",
        "int used()",
        "int old(int) NoSuchElementException",
        "int deepest()",
    };

    public static void main(String[] args) {
        Due due = new Due("the face");
        Class<?> face = SaveRestore.class;
        due.same("modifiers", "public final", Modifier.toString(face.getModifiers()));
        due.same("methods", new TreeSet<>(Arrays.asList(METHODS)).toString(), methodsOf(face, due).toString());
        due.same("constructors", "1", Integer.toString(face.getDeclaredConstructors().length));
        for (Constructor<?> each : face.getDeclaredConstructors()) {
            due.same("constructor", "public SaveRestore()", each.toString());
        }
        for (Field each : face.getDeclaredFields()) {
            due.same(each.getName() + " is private", "true", Boolean.toString(Modifier.isPrivate(each.getModifiers())));
            boolean fixed = !Modifier.isStatic(each.getModifiers()) || Modifier.isFinal(each.getModifiers());
            due.same(each.getName() + " is no static state", "true", Boolean.toString(fixed));
        }
        due.end();
    }

    private static TreeSet<String> methodsOf(Class<?> face, Due due) {
        TreeSet<String> open = new TreeSet<>();
        TreeSet<String> openNames = new TreeSet<>();
        for (Method each : face.getDeclaredMethods()) {
            if (!Modifier.isPrivate(each.getModifiers())) {
                due.same(each.getName(), "public", Modifier.toString(each.getModifiers()));
                open.add(textOf(each));
                openNames.add(each.getName());
            }
        }
        for (Method each : face.getDeclaredMethods()) {
            boolean clash = Modifier.isPrivate(each.getModifiers()) && openNames.contains(each.getName());
            due.same(each.getName() + " bears a public name", "false", Boolean.toString(clash));
        }
        return open;
    }

    private static String textOf(Method method) {
        StringBuilder text = new StringBuilder();
        text.append(method.getReturnType().getSimpleName()).append(' ').append(method.getName()).append('(');
        String gap = "";
        for (Class<?> each : method.getParameterTypes()) {
            text.append(gap).append(each.getSimpleName());
            gap = " ";
        }
        text.append(')');
        for (Class<?> each : method.getExceptionTypes()) {
            text.append(' ').append(each.getSimpleName());
        }
        return text.toString();
    }
}
