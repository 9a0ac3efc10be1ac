import java.lang.reflect.Constructor;
import java.lang.reflect.Field;
import java.lang.reflect.Method;
import java.lang.reflect.Modifier;
import java.util.Set;
import java.util.TreeSet;

/** The face of the class: what the document lists and no more (LANGUAGE.md, rules 1, 5, 11). */
public final class FaceTest {
    private static final String METHODS =
        "write1 wipe0 fault0 lay0 item2 hour2 pass1 touch2 wash1 powder1 undo0 behind3 asIf3 soap1 alike1 show2 "
        + "forget0 touched1 order1 box0 from2 led3 dogs3 keep0 back0 count1";
    private static final Checks checks = new Checks();

    public static void main(String[] args) {
        Class<?> face = BlueByTouch.class;
        Set<String> due = new TreeSet<>(Set.of(METHODS.split(" ")));
        Set<String> names = new TreeSet<>();
        Set<String> found = new TreeSet<>();
        for (String method : due) {
            names.add(method.substring(0, method.length() - 1));
        }
        for (Method method : face.getDeclaredMethods()) {
            if (Modifier.isPublic(method.getModifiers())) {
                found.add(method.getName() + method.getParameterCount());
                hold(method.getName() + " answers an int", method.getReturnType() == int.class);
                hold(method.getName() + " is of an object", !Modifier.isStatic(method.getModifiers()));
            } else {
                hold(method.getName() + " is private", Modifier.isPrivate(method.getModifiers()));
                hold(method.getName() + " bears no name of the face", !names.contains(method.getName()));
            }
            hold(method.getName() + " takes seven at most", method.getParameterCount() <= 7);
        }
        hold("the methods are " + due + ", found " + found, due.equals(found));
        fields(face);
        for (Constructor<?> constructor : face.getDeclaredConstructors()) {
            hold("one constructor, without parameters", constructor.getParameterCount() == 0);
            hold("it is public", Modifier.isPublic(constructor.getModifiers()));
        }
        hold("the class is public and final", Modifier.isPublic(face.getModifiers()) && Modifier.isFinal(face.getModifiers()));
        constants();
        checks.end();
    }

    private static void fields(Class<?> face) {
        Set<String> found = new TreeSet<>();
        for (Field field : face.getDeclaredFields()) {
            if (Modifier.isPublic(field.getModifiers())) {
                found.add(field.getName());
            } else {
                hold(field.getName() + " is private", Modifier.isPrivate(field.getModifiers()));
            }
            if (Modifier.isStatic(field.getModifiers())) {
                hold(field.getName() + " is final", Modifier.isFinal(field.getModifiers()));
            }
        }
        hold("the constants are four", found.equals(Set.of("BAD", "NO", "FULL", "NONE")));
        for (Class<?> inner : face.getDeclaredClasses()) {
            hold(inner.getName() + " is static", Modifier.isStatic(inner.getModifiers()));
            for (Field field : inner.getDeclaredFields()) {
                hold(inner.getName() + " has no static state", !Modifier.isStatic(field.getModifiers()));
            }
        }
    }

    private static void constants() {
        checks.due("BAD", BlueByTouch.BAD, -1);
        checks.due("NO", BlueByTouch.NO, -2);
        checks.due("FULL", BlueByTouch.FULL, -3);
        checks.due("NONE", BlueByTouch.NONE, -4);
    }

    private static void hold(String what, boolean holds) {
        checks.due("that " + what, holds ? 1 : 0, 1);
    }
}
