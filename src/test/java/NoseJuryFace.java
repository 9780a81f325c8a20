import java.lang.reflect.Constructor;
import java.lang.reflect.Method;
import java.lang.reflect.Modifier;
import java.util.Arrays;
import java.util.HashSet;
import java.util.Set;
import java.util.TreeSet;

/** The public face of the class is the one that the document prints, and nothing more. */
public final class NoseJuryFace {
    private static final String[] FACE = {
        "int law(int, int)", "int person(int, int)", "int of(int, int)", "int set(int, int, int)",
        "int did(int, int, int)", "int scent(int, int, int)", "int turn(int, int)", "int as(int, int)",
        "int wash(int)", "int meet(int, int)", "int smells(int, int, int)", "int deed(int, int)",
        "int guilty(int)", "int convicts(int, int)", "int hours(int)", "int now(int)", "int on(int, int, int)",
        "int clean(int)", "int wind(int)", "int seat(int)", "int bath(int)", "int kind(int)", "int due(int)",
        "int jury(int, int)", "int juries(int, int)", "int from(int, int)", "int nose(int, int)",
        "int feed(int, int)", "int wipe()", "int hall()", "int sheet(int, int, int)", "long write(int, int, long)",
        "int copy(int, int, int, int, int)", "int lays(int)", "int book(int, int, int, int)",
        "int read(int, int, int, int)", "int image()", "int undo()", "int tear()", "int count(int)",
        "int status(int)",
    };
    private static int wrong = 0;

    private static void check(boolean right, String what) {
        if (!right) {
            wrong++;
            System.out.println("the face: " + what);
        }
    }

    private static String told(Method m) {
        StringBuilder b = new StringBuilder();
        b.append(m.getReturnType().getName()).append(' ').append(m.getName()).append('(');
        Class<?>[] types = m.getParameterTypes();
        for (int i = 0; i < types.length; i++) {
            b.append(i == 0 ? "" : ", ").append(types[i].getName());
        }
        return b.append(')').toString();
    }

    public static void main(String[] args) {
        Class<?> c = NoseJury.class;
        check(Modifier.isPublic(c.getModifiers()) && Modifier.isFinal(c.getModifiers()), "public final");
        Constructor<?>[] made = c.getDeclaredConstructors();
        check(made.length == 1 && made[0].getParameterCount() == 0 && Modifier.isPublic(made[0].getModifiers()),
            "one public constructor");
        Set<String> face = new TreeSet<>();
        Set<String> names = new HashSet<>();
        for (Method m : c.getDeclaredMethods()) {
            if (!Modifier.isPrivate(m.getModifiers())) {
                face.add(told(m));
                names.add(m.getName());
            }
        }
        check(face.equals(new TreeSet<>(Arrays.asList(FACE))), "the methods are " + face);
        checkPrivateNames(c, names);
        for (Class<?> inner : c.getDeclaredClasses()) {
            check(Modifier.isStatic(inner.getModifiers()), inner + " is static");
            checkPrivateNames(inner, names);
        }
        for (java.lang.reflect.Field f : c.getDeclaredFields()) {
            check(Modifier.isPrivate(f.getModifiers()), f + " is private");
        }
        System.out.println(wrong == 0 ? "the face is as the document prints it" : wrong + " are wrong");
        if (wrong != 0) {
            System.exit(1);
        }
    }

    private static void checkPrivateNames(Class<?> c, Set<String> names) {
        for (Method m : c.getDeclaredMethods()) {
            boolean own = c == NoseJury.class && !Modifier.isPrivate(m.getModifiers());
            check(own || !names.contains(m.getName()), m + " bears the name of a public one");
        }
    }
}
