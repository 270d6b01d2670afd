import java.lang.reflect.Constructor;
import java.lang.reflect.Field;
import java.lang.reflect.Method;
import java.lang.reflect.Modifier;
import java.util.Arrays;
import java.util.TreeSet;

/** The public face: just what the document lists, and nothing else to be seen from outside. */
public final class FaceTest {
    private static final String METHODS = "feed(int) street() fault() told(int) stop(int,int) din(int) round(int,int)"
        + " fetch(int) order(int) thank(int) drift(int) undo(int) comes(int,int,int) home(int,int) outcome(int,int)"
        + " bath(int,int,int,int) bestWay(int,int) pretends(int,int,int) locker(int,int,int) bears(int)"
        + " heard(int,int) see(int,boolean) rang(int,int) write(int,int) judge() tear() seed(int) keep(int) goBack(int)";

    public static void main(String[] args) throws Exception {
        Class<?> face = WeWereIn.class;
        Check.due("public final", Modifier.isPublic(face.getModifiers()) && Modifier.isFinal(face.getModifiers()), true);
        Check.due("methods", seenMethods(face), new TreeSet<>(Arrays.asList(METHODS.split(" "))));
        Check.due("constants", seenFields(face), new TreeSet<>(Arrays.asList("NONE", "UNKNOWN", "OUTSIDE", "NOT", "FULL")));
        Constructor<?>[] makers = face.getDeclaredConstructors();
        Check.due("constructors", makers.length, 1);
        Check.due("constructor is public", Modifier.isPublic(makers[0].getModifiers()), true);
        Check.due("constructor takes", makers[0].getParameterCount(), 0);
        for (Class<?> inside : face.getDeclaredClasses()) {
            Check.due(inside + " is static", Modifier.isStatic(inside.getModifiers()), true);
            Check.due(inside + " is public", Modifier.isPublic(inside.getModifiers()), false);
            staticsAreFinal(inside);
        }
        staticsAreFinal(face);
        Check.due("NONE", WeWereIn.NONE, -1);
        Check.due("UNKNOWN", WeWereIn.UNKNOWN, -1000000001);
        Check.due("OUTSIDE", WeWereIn.OUTSIDE, -1000000002);
        Check.due("NOT", WeWereIn.NOT, -1000000003);
        Check.due("FULL", WeWereIn.FULL, -1000000004);
        Check.end();
    }

    private static TreeSet<String> seenMethods(Class<?> face) {
        TreeSet<String> seen = new TreeSet<>();
        for (Method m : face.getDeclaredMethods()) {
            if (Modifier.isPrivate(m.getModifiers()) || m.isSynthetic()) {
                continue;
            }
            StringBuilder name = new StringBuilder(m.getName()).append('(');
            for (Class<?> p : m.getParameterTypes()) {
                name.append(name.charAt(name.length() - 1) == '(' ? "" : ",").append(p.getName());
            }
            seen.add(name.append(')').toString());
            Check.due(m + " is public", Modifier.isPublic(m.getModifiers()), true);
            Check.due(m + " answers", m.getReturnType(), int.class);
        }
        return seen;
    }

    private static TreeSet<String> seenFields(Class<?> face) {
        TreeSet<String> seen = new TreeSet<>();
        for (Field f : face.getDeclaredFields()) {
            if (!Modifier.isPrivate(f.getModifiers())) {
                seen.add(f.getName());
                Check.due(f.getName(), f.getModifiers(), Modifier.PUBLIC | Modifier.STATIC | Modifier.FINAL);
            }
        }
        return seen;
    }

    private static void staticsAreFinal(Class<?> c) {
        for (Field f : c.getDeclaredFields()) {
            if (Modifier.isStatic(f.getModifiers())) {
                Check.due(f + " is final", Modifier.isFinal(f.getModifiers()), true);
            }
        }
    }
}
