import java.lang.reflect.Constructor;
import java.lang.reflect.Field;
import java.lang.reflect.Method;
import java.lang.reflect.Modifier;
import java.util.Set;
import java.util.TreeSet;

/** The public face: the constants, the constructor and the methods, and nothing else that can be seen. */
public final class FaceTest {
    private static final String[] METHODS = {
        "int mast()", "int channels(int)", "int pair(int,int,int)", "int bar(int,int)", "int limit(int)",
        "int fits(int)", "int tries(int)", "int packing(int,int)", "int reason(int)", "int spare(int)",
        "int old(int,int,int)", "int clock(int,int)", "int run(int)", "int paid(int)", "int round(int)",
        "int gain(int,int)", "int most(int,int,int,int)", "int house()", "int ask(int,int,int)",
        "int best(int,int)", "int takes(int)", "int price(int,int)", "int blocks(int)", "int alone()",
        "int tell(int,int,int)", "int weeks(int,int)", "int tower(int,int)", "int free(int)",
        "int heard(int,int)", "int could(int,int)", "int count(int)", "long digest()",
    };

    private FaceTest() {
    }

    public static void main(String[] args) {
        Due.is("NONE", AirClock.NONE, -1);
        Due.is("BAD", AirClock.BAD, -2);
        Due.is("NO", AirClock.NO, -3);
        Due.is("FULL", AirClock.FULL, -4);
        Due.is("NOT_TOLD", AirClock.NOT_TOLD, -5);
        int how = AirClock.class.getModifiers();
        Due.holds("public final class", Modifier.isPublic(how) && Modifier.isFinal(how));
        constructors();
        methods();
        fields();
        insideClasses();
        Due.end();
    }

    private static void constructors() {
        Constructor<?>[] all = AirClock.class.getDeclaredConstructors();
        Due.is("constructors", all.length, 1);
        Due.holds("it is public, with no parameters",
                Modifier.isPublic(all[0].getModifiers()) && all[0].getParameterCount() == 0);
    }

    private static void methods() {
        Set<String> due = new TreeSet<>(Set.of(METHODS));
        Set<String> names = new TreeSet<>();
        Set<String> seen = new TreeSet<>();
        for (Method m : AirClock.class.getDeclaredMethods()) {
            if (!Modifier.isPrivate(m.getModifiers())) {
                Due.holds(m + " is public and not static",
                        Modifier.isPublic(m.getModifiers()) && !Modifier.isStatic(m.getModifiers()));
                seen.add(textOf(m));
                names.add(m.getName());
            }
        }
        Due.holds("methods are " + seen + ", due are " + due, seen.equals(due));
        hideNone(AirClock.class, names);
        for (Class<?> inside : AirClock.class.getDeclaredClasses()) {
            hideNone(inside, names);
        }
    }

    private static void hideNone(Class<?> of, Set<String> names) {
        for (Method m : of.getDeclaredMethods()) {
            boolean ofTheFace = of == AirClock.class && Modifier.isPublic(m.getModifiers());
            Due.holds(m + " bears the name of a public one", ofTheFace || !names.contains(m.getName()));
        }
    }

    private static String textOf(Method m) {
        StringBuilder text = new StringBuilder(m.getReturnType().getName()).append(' ').append(m.getName()).append('(');
        for (Class<?> p : m.getParameterTypes()) {
            text.append(text.charAt(text.length() - 1) == '(' ? "" : ",").append(p.getName());
        }
        return text.append(')').toString();
    }

    private static void fields() {
        Set<String> constants = new TreeSet<>();
        for (Field f : AirClock.class.getDeclaredFields()) {
            int how = f.getModifiers();
            if (!Modifier.isPrivate(how)) {
                constants.add(f.getName());
                Due.holds(f + " is a constant",
                        Modifier.isPublic(how) && Modifier.isStatic(how) && Modifier.isFinal(how));
            }
        }
        Due.holds("constants are " + constants,
                constants.equals(Set.of("NONE", "BAD", "NO", "FULL", "NOT_TOLD")));
    }

    private static void insideClasses() {
        Class<?>[] inside = AirClock.class.getDeclaredClasses();
        Due.holds("at most twelve classes", inside.length <= 11);
        for (Class<?> c : inside) {
            int how = c.getModifiers();
            Due.holds(c + " is static and not public",
                    Modifier.isStatic(how) && !Modifier.isPublic(how) && !Modifier.isProtected(how));
            int own = 0;
            for (Field f : c.getDeclaredFields()) {
                own += Modifier.isStatic(f.getModifiers()) ? 0 : 1;
                Due.holds(f + " is final if static",
                        !Modifier.isStatic(f.getModifiers()) || Modifier.isFinal(f.getModifiers()));
            }
            Due.holds(c + " has at most twenty fields", own <= 20);
        }
    }
}
