import java.lang.reflect.Constructor;
import java.lang.reflect.Field;
import java.lang.reflect.Method;
import java.lang.reflect.Modifier;
import java.util.Set;
import java.util.TreeSet;

/** The class has the document's face, and no other member that is not private. */
public final class FaceTest {
    private static final Checks checks = new Checks();

    public static void main(String[] args) {
        Class<?> face = AlikeStates.class;
        checks.isTrue("public final class", Modifier.isPublic(face.getModifiers())
                && Modifier.isFinal(face.getModifiers()));
        same(methods(face), "boolean move(int, int, int)", "boolean drop(int, int, int)",
                "boolean colour(int, int)", "int moves()", "int clear()", "boolean alike(int, int)",
                "int breach(int, int)", "int kinds()", "int kind(int)", "int size(int)",
                "int reach(int, int)", "int links()", "boolean covers(int, int)", "int below(int)",
                "int attacks(int, int)", "int play(int, int)", "int attack(int, int, int)",
                "int answer(int, int, int)");
        same(fields(face), "public static final int NONE");
        same(constructors(face), "public AlikeStates()");
        for (Class<?> inside : face.getDeclaredClasses()) {
            checks.isTrue(inside + " is static and not public", Modifier.isStatic(inside.getModifiers())
                    && !Modifier.isPublic(inside.getModifiers())
                    && !Modifier.isProtected(inside.getModifiers()));
        }
        privateNamesDiffer(face);
        checks.end();
    }

    private static void same(Set<String> got, String... want) {
        Set<String> due = new TreeSet<>(Set.of(want));
        checks.isTrue("the face has " + got + ", due is " + due + ": this", got.equals(due));
    }

    private static Set<String> methods(Class<?> face) {
        Set<String> found = new TreeSet<>();
        for (Method m : face.getDeclaredMethods()) {
            if (!Modifier.isPrivate(m.getModifiers())) {
                checks.isTrue(m + " is public alone", m.getModifiers() == Modifier.PUBLIC);
                StringBuilder text = new StringBuilder(m.getReturnType() + " " + m.getName() + "(");
                for (int i = 0; i < m.getParameterCount(); i++) {
                    text.append(i == 0 ? "" : ", ").append(m.getParameterTypes()[i]);
                }
                found.add(text.append(")").toString());
            }
        }
        return found;
    }

    private static Set<String> fields(Class<?> face) {
        Set<String> found = new TreeSet<>();
        for (Field f : face.getDeclaredFields()) {
            if (!Modifier.isPrivate(f.getModifiers())) {
                found.add(Modifier.toString(f.getModifiers()) + " " + f.getType() + " " + f.getName());
            }
        }
        return found;
    }

    private static Set<String> constructors(Class<?> face) {
        Set<String> found = new TreeSet<>();
        for (Constructor<?> c : face.getDeclaredConstructors()) {
            found.add(c.toString());
        }
        return found;
    }

    private static void privateNamesDiffer(Class<?> face) {
        Set<String> names = new TreeSet<>();
        for (Method m : face.getMethods()) {
            names.add(m.getName());
        }
        for (Method m : face.getDeclaredMethods()) {
            if (Modifier.isPrivate(m.getModifiers())) {
                checks.isTrue(m + " has a name of its own", !names.contains(m.getName()));
            }
        }
        for (Class<?> inside : face.getDeclaredClasses()) {
            for (Method m : inside.getDeclaredMethods()) {
                checks.isTrue(m + " has a name of its own", !names.contains(m.getName()));
            }
        }
    }
}
