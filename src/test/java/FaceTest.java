import java.lang.reflect.Constructor;
import java.lang.reflect.Executable;
import java.lang.reflect.Field;
import java.lang.reflect.Method;
import java.lang.reflect.Modifier;
import java.util.ArrayList;
import java.util.Arrays;
import java.util.List;
import java.util.TreeSet;

/** The public face is the document's, to the letter, and nothing else can be seen from outside. */
public final class FaceTest {
    private static final List<String> FACE = List.of(
            "DeskTurns()",
            "boolean interrupt(int)",
            "boolean needs(int, int, int)",
            "int close()",
            "int count(int)",
            "int dead(int) throws IllegalArgumentException",
            "int desk(int, int) throws IllegalArgumentException, IllegalStateException",
            "int holder(int) throws IllegalArgumentException",
            "int log(int)",
            "int look(int, int) throws IndexOutOfBoundsException",
            "int run() throws IllegalStateException",
            "int tick(int) throws IllegalArgumentException",
            "int turn(int) throws IllegalArgumentException, IllegalStateException",
            "int waits(int, int) throws IllegalArgumentException",
            "static final int NONE");

    public static void main(String[] args) {
        Due due = new Due();
        due.is("the modifiers of the class", Modifier.toString(DeskTurns.class.getModifiers()), "public final");
        due.is("NONE", DeskTurns.NONE, -1);
        due.is("the face", String.join("\n", seen(due)), String.join("\n", new TreeSet<>(FACE)));
        due.end();
    }

    private static TreeSet<String> seen(Due due) {
        TreeSet<String> seen = new TreeSet<>();
        List<String> publicNames = new ArrayList<>();
        for (Method m : DeskTurns.class.getDeclaredMethods()) {
            if (!Modifier.isPrivate(m.getModifiers())) {
                due.is("modifiers of " + m.getName(), Modifier.toString(m.getModifiers()), "public");
                seen.add(m.getReturnType().getSimpleName() + " " + m.getName() + tail(m));
                publicNames.add(m.getName());
            }
        }
        for (Method m : DeskTurns.class.getDeclaredMethods()) {
            boolean clash = Modifier.isPrivate(m.getModifiers()) && publicNames.contains(m.getName());
            due.is("private " + m.getName() + " bears a public name", clash, false);
        }
        for (Constructor<?> c : DeskTurns.class.getDeclaredConstructors()) {
            due.is("modifiers of the constructor", Modifier.toString(c.getModifiers()), "public");
            seen.add("DeskTurns" + tail(c));
        }
        for (Field f : DeskTurns.class.getDeclaredFields()) {
            if (!Modifier.isPrivate(f.getModifiers())) {
                due.is("modifiers of " + f.getName(), Modifier.toString(f.getModifiers()), "public static final");
                seen.add("static final " + f.getType().getSimpleName() + " " + f.getName());
            }
        }
        return seen;
    }

    private static String tail(Executable e) {
        String thrown = names(e.getExceptionTypes());
        return "(" + names(e.getParameterTypes()) + ")" + (thrown.isEmpty() ? "" : " throws " + thrown);
    }

    private static String names(Class<?>[] types) {
        return String.join(", ", Arrays.stream(types).map(Class::getSimpleName).toList());
    }
}
