import java.lang.reflect.InvocationTargetException;
import java.lang.reflect.Method;
import java.util.ArrayList;
import java.util.Comparator;
import java.util.List;
import java.util.Random;

/** LANGUAGE.md, rule 7: no call throws, whatever it is given and whatever was called before. */
public final class AnyArgumentsTest {
    private static final int OBJECTS = 60;
    // More than the document promises: later answers are free, but a throw is not.
    private static final int CALLS = 1500;

    private AnyArgumentsTest() {
    }

    public static void main(String[] args) throws IllegalAccessException {
        List<Method> calls = new ArrayList<>();
        for (Method m : AirClock.class.getDeclaredMethods()) {
            if (java.lang.reflect.Modifier.isPublic(m.getModifiers())) {
                calls.add(m);
            }
        }
        calls.sort(Comparator.comparing(Method::getName));
        Due.is("calls of the face", calls.size(), 32);
        for (int seed = 1; seed <= OBJECTS; seed++) {
            Due.is("throws of object " + seed, throwsOf(new Random(seed), calls), 0);
        }
        Due.end();
    }

    private static int throwsOf(Random random, List<Method> calls) throws IllegalAccessException {
        AirClock x = new AirClock();
        int thrown = 0;
        for (int i = 0; i < CALLS; i++) {
            Method call = calls.get(random.nextInt(calls.size()));
            Object[] given = new Object[call.getParameterCount()];
            for (int k = 0; k < given.length; k++) {
                given[k] = any(random);
            }
            try {
                call.invoke(x, given);
            } catch (InvocationTargetException e) {
                thrown++;
                System.out.println(call.getName() + java.util.Arrays.toString(given) + ": " + e.getCause());
            }
        }
        return thrown;
    }

    /** Mostly small, so that calls are taken; at times a power of two or next to one; at times anything. */
    private static int any(Random random) {
        switch (random.nextInt(8)) {
            case 0:
                return random.nextInt();
            case 1:
                return (1 << random.nextInt(32)) + random.nextInt(3) - 1;
            case 2:
                return random.nextInt(1100) - 20;
            default:
                return random.nextInt(8);
        }
    }
}
