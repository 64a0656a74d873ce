import java.lang.reflect.InvocationTargetException;
import java.lang.reflect.Method;
import java.util.ArrayList;
import java.util.List;
import java.util.Random;

/** Long runs of calls, by a seed, on RoofDrains and on Model: each answer must be the same. */
public final class ModelTest {
    private static final int RUNS = 120;
    private static final int CALLS = 512;
    private static final String[] TEXTS = {"w", "c3", "c0", "20*5", "99*60", "0*1", "5*6", "30*3", "7*", "c", "1", "x",
        "00", "61", ";", ";", ";", "10*17;w;c5", "c1;c2;80*9", "*", "w;w;w"};

    /** Each call of the face, how often it comes, and of each argument the least and the greatest that is fine. */
    private static final Object[][] FACE = {
        {"plane", 6, 0, 5, 0, 200, 0, 9, 0, 5}, {"gutter", 8, 0, 5, 1, 500, 0, 99}, {"valley", 8, 0, 5, -1, 5},
        {"clean", 3, 0, 5}, {"set", 6, 0, 2, 0, 99}, {"set", 2, 0, 0, 0, 600}, {"rain", 10, 0, 99, 1, 60},
        {"rain", 8, 0, 30, 1, 5}, {"weeks", 2, 1, 52}, {"weeks", 3, 1, 3}, {"clearBuffer", 2}, {"firstError", 6},
        {"play", 8}, {"undo", 8}, {"planeOf", 5, 0, 5, 0, 3}, {"gutterOf", 8, 0, 5, 0, 8}, {"count", 5, 0, 8},
        {"setting", 2, 0, 2}, {"ifRained", 4, 1, 60, 0, 2}, {"spillsFirst", 3, 0, 1}, {"bestClean", 3},
        {"mostRain", 3, 1, 60}, {"dryIn", 3}, {"drainedShare", 2}, {"digest", 3}, {"type", 14}};

    private int wrong;
    private int compared;

    public static void main(String[] args) {
        ModelTest test = new ModelTest();
        for (int seed = 0; seed < RUNS; seed++) {
            test.run(seed);
        }
        System.out.println("ModelTest: " + test.compared + " calls, " + test.wrong + " wrong");
        if (test.wrong != 0) {
            System.exit(1);
        }
    }

    private void run(int seed) {
        Random random = new Random(seed);
        RoofDrains x = new RoofDrains();
        Model model = new Model();
        List<String> done = new ArrayList<>();
        boolean same = true;
        if (seed % 2 == 0) {
            for (int n = 0; n < 6; n++) {
                same &= compare(x, model, done, "gutter", n, 1 + random.nextInt(80), random.nextInt(40));
            }
        }
        while (same && done.size() < CALLS - 1) {
            Object[] call = pick(random);
            if (call[0].equals("type")) {
                for (char sign : TEXTS[random.nextInt(TEXTS.length)].toCharArray()) {
                    same = same && (done.size() >= CALLS - 1 || compare(x, model, done, "append", (int) sign));
                }
            } else {
                same = compare(x, model, done, (String) call[0], arguments(random, call));
            }
        }
        if (same) {
            compare(x, model, done, "digest");
        }
    }

    private static Object[] pick(Random random) {
        int weights = 0;
        for (Object[] call : FACE) {
            weights += (Integer) call[1];
        }
        int at = random.nextInt(weights);
        for (Object[] call : FACE) {
            at -= (Integer) call[1];
            if (at < 0) {
                return call;
            }
        }
        throw new AssertionError();
    }

    private static int[] arguments(Random random, Object[] call) {
        int[] arguments = new int[(call.length - 2) / 2];
        for (int n = 0; n < arguments.length; n++) {
            int least = (Integer) call[2 + 2 * n];
            int most = (Integer) call[3 + 2 * n];
            int kind = random.nextInt(50);
            arguments[n] = kind == 0 ? least - 1 : kind == 1 ? most + 1 : kind == 2 ? Integer.MIN_VALUE
                : kind == 3 ? Integer.MAX_VALUE : kind == 4 ? least : kind == 5 ? most
                : least + random.nextInt(most - least + 1);
        }
        return arguments;
    }

    private boolean compare(RoofDrains x, Model model, List<String> done, String name, int... arguments) {
        StringBuilder call = new StringBuilder(name);
        for (int argument : arguments) {
            call.append(' ').append(argument);
        }
        done.add(call.toString());
        compared++;
        Object want = answer(model, name, arguments);
        Object got = answer(x, name, arguments);
        if (want.equals(got)) {
            return true;
        }
        wrong++;
        System.out.println("answered " + got + ", due is " + want + ", the last of " + done);
        return false;
    }

    private static Object answer(Object target, String name, int[] arguments) {
        Class<?>[] types = new Class<?>[arguments.length];
        Object[] values = new Object[arguments.length];
        for (int n = 0; n < arguments.length; n++) {
            types[n] = int.class;
            values[n] = arguments[n];
        }
        try {
            Method method = target.getClass().getMethod(name, types);
            return method.invoke(target, values);
        } catch (InvocationTargetException e) {
            return "throws." + e.getCause().getClass().getSimpleName();
        } catch (ReflectiveOperationException e) {
            return "no such call: " + name;
        }
    }
}
