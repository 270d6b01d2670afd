import java.lang.reflect.InvocationTargetException;
import java.lang.reflect.Method;
import java.util.Random;

/** No call throws, whatever its arguments and whatever went ahead of it. */
public final class AnythingTest {
    public static void main(String[] args) throws IllegalAccessException {
        Random random = new Random(2026);
        Method[] calls = WeWereIn.class.getDeclaredMethods();
        java.util.Arrays.sort(calls, (a, b) -> a.getName().compareTo(b.getName()));
        for (int run = 0; run < 400; run++) {
            WeWereIn x = run % 4 == 0 ? new WeWereIn() : Check.street(run % 4 == 1 ? "v1 0 1;" : Check.FOUR);
            for (int i = 0; i < 400; i++) {
                Method call = calls[random.nextInt(calls.length)];
                if (java.lang.reflect.Modifier.isPublic(call.getModifiers())) {
                    make(x, call, random);
                }
            }
        }
        Check.end();
    }

    private static void make(WeWereIn x, Method call, Random random) throws IllegalAccessException {
        Object[] with = new Object[call.getParameterCount()];
        for (int i = 0; i < with.length; i++) {
            int any = random.nextInt(4) == 0 ? random.nextInt() : random.nextInt(random.nextBoolean() ? 9 : 4400) - 2;
            if (call.getParameterTypes()[i] == boolean.class) {
                with[i] = any % 2 == 0;
            } else {
                with[i] = any;
            }
        }
        Throwable thrown = null;
        try {
            call.invoke(x, with);
        } catch (InvocationTargetException e) {
            thrown = e.getCause();
        }
        Check.due(call.getName() + java.util.Arrays.toString(with) + " threw: it", thrown, null);
    }
}
