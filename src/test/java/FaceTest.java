import java.lang.reflect.Constructor;
import java.lang.reflect.Field;
import java.lang.reflect.Method;
import java.lang.reflect.Modifier;
import java.util.Set;
import java.util.TreeSet;

/** The public face, and rule 1 of LANGUAGE.md. */
public final class FaceTest {
    private static final Set<String> FACE = Set.of(
        "int pilot(long,long)", "int message(int,long,long)", "int allowed()", "int plug(boolean)",
        "int meter(long)", "int plan(long,long)", "long short0()", "int price(long,long,long)",
        "long planned(long)", "int stop(int,long)", "int car(int)", "long share(int,long,int)",
        "int lost(long)", "int state()");

    public static void main(String[] args) {
        Checks c = new Checks();
        Class<?> face = ChargeTalk.class;
        c.holds("the class is public and final",
            Modifier.isPublic(face.getModifiers()) && Modifier.isFinal(face.getModifiers()));
        methods(c, face);
        Constructor<?>[] made = face.getDeclaredConstructors();
        c.holds("one public constructor without parameters", made.length == 1
            && Modifier.isPublic(made[0].getModifiers()) && made[0].getParameterCount() == 0);
        for (Field f : face.getDeclaredFields()) {
            c.holds(f.getName() + " is private", Modifier.isPrivate(f.getModifiers()));
        }
        for (Class<?> inner : face.getDeclaredClasses()) {
            c.holds(inner.getName() + " is static", Modifier.isStatic(inner.getModifiers()));
            for (Method m : inner.getDeclaredMethods()) {
                c.holds(m.getName() + " has a name of its own", !isOfFace(m.getName()));
            }
        }
        c.end();
    }

    private static void methods(Checks c, Class<?> face) {
        Set<String> seen = new TreeSet<>();
        Set<String> names = new TreeSet<>();
        for (Method m : face.getDeclaredMethods()) {
            if (Modifier.isPublic(m.getModifiers())) {
                seen.add(written(m));
                names.add(m.getName());
            }
        }
        c.holds("the public methods are those of the document: " + seen, seen.equals(FACE));
        for (Method m : face.getDeclaredMethods()) {
            if (!Modifier.isPublic(m.getModifiers())) {
                c.holds(m.getName() + " is private, with a name of its own",
                    Modifier.isPrivate(m.getModifiers()) && !names.contains(m.getName()));
            }
        }
    }

    private static boolean isOfFace(String name) {
        for (String method : FACE) {
            if (method.contains(" " + name + "(")) {
                return true;
            }
        }
        return false;
    }

    private static String written(Method m) {
        StringBuilder text = new StringBuilder();
        for (Class<?> p : m.getParameterTypes()) {
            text.append(text.length() == 0 ? "" : ",").append(p.getName());
        }
        return m.getReturnType().getName() + " " + m.getName() + "(" + text + ")";
    }
}
