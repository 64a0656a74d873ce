import java.lang.reflect.InvocationTargetException;
import java.lang.reflect.Method;
import java.lang.reflect.Modifier;
import java.util.Arrays;
import java.util.Comparator;
import java.util.Random;

/**
 * LANGUAGE.md, rules 6 and 7: for any arguments in any state, also far behind the 512th call and where the counts have
 * run over, a call ends, and throws nothing but what the document names.
 */
public final class AnyStateTest {
    private static final int RUNS = 30;
    private static final int CALLS = 3000;
    private static final int[] ODD = {Integer.MIN_VALUE, Integer.MIN_VALUE + 1, -1000, -2, -1, 0, 1, 2, 3, 4, 5, 6, 7, 8, 9,
        10, 50, 60, 61, 99, 100, 127, 200, 201, 500, 600, 601, Integer.MAX_VALUE - 1, Integer.MAX_VALUE};

    private final Checks checks = new Checks();
    private final Method[] face = Arrays.stream(RoofDrains.class.getDeclaredMethods())
        .filter(method -> Modifier.isPublic(method.getModifiers())).sorted(Comparator.comparing(Method::getName))
        .toArray(Method[]::new);

    public static void main(String[] args) {
        AnyStateTest test = new AnyStateTest();
        test.run();
        test.checks.end("AnyStateTest");
    }

    private void run() {
        for (int seed = 0; seed < RUNS; seed++) {
            anyCalls(new RoofDrains(), new Random(seed), CALLS);
        }
        anyCalls(countsRunOver(), new Random(RUNS), CALLS);
        everyPairOfOddArguments(countsRunOver());
    }

    private static RoofDrains countsRunOver() {
        RoofDrains x = new RoofDrains();
        for (int plane = 0; plane < 6; plane++) {
            x.plane(plane, 200, plane, plane);
        }
        for (int call = 0; call < 4000; call++) {
            x.rain(99, 60);
        }
        return x;
    }

    private void anyCalls(RoofDrains x, Random random, int calls) {
        for (int call = 0; call < calls; call++) {
            Method method = face[random.nextInt(face.length)];
            Object[] arguments = new Object[method.getParameterCount()];
            for (int n = 0; n < arguments.length; n++) {
                arguments[n] = random.nextInt(4) == 0 ? ODD[random.nextInt(ODD.length)] : random.nextInt(7);
            }
            throwsAsNamed(x, method, arguments);
            if (random.nextInt(5) == 0) {
                Checks.answer(() -> x.append("0123456789*;wc".charAt(random.nextInt(14))));
            }
        }
    }

    private void everyPairOfOddArguments(RoofDrains x) {
        for (Method method : face) {
            for (int first : ODD) {
                for (int second : ODD) {
                    Object[] arguments = new Object[method.getParameterCount()];
                    for (int n = 0; n < arguments.length; n++) {
                        arguments[n] = n % 2 == 0 ? first : second;
                    }
                    throwsAsNamed(x, method, arguments);
                }
            }
        }
    }

    /** An exception of the machine's own is of a class below the one that is named, so it must be that class itself. */
    private void throwsAsNamed(RoofDrains x, Method method, Object[] arguments) {
        checks.due(method.getName() + Arrays.toString(arguments), () -> {
            try {
                method.invoke(x, arguments);
                return true;
            } catch (InvocationTargetException e) {
                return Arrays.asList(method.getExceptionTypes()).contains(e.getCause().getClass());
            }
        }, true);
    }
}
