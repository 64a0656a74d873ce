import java.util.concurrent.Callable;

/** What every test here uses: it prints each answer that is not due, and ends with exit code 1 if there was one. */
final class Checks {
    private int checked;
    private int wrong;

    /** Also an exception is an answer: its name behind "throws.". */
    static Object answer(Callable<Object> call) {
        try {
            return call.call();
        } catch (Exception e) {
            return "throws." + e.getClass().getSimpleName();
        }
    }

    void due(String what, Callable<Object> call, Object want) {
        checked++;
        Object got = answer(call);
        if (!want.equals(got)) {
            wrong++;
            System.out.println(what + " answered " + got + ", due is " + want);
        }
    }

    /** The call throws, and changes nothing that can be seen, nor what undo would restore next. */
    void refused(String what, RoofDrains x, Class<? extends Exception> exception, Callable<Object> call) {
        long before = x.digest();
        due(what, call, "throws." + exception.getSimpleName());
        due(what + ", digest behind it", x::digest, before);
    }

    void end(String name) {
        System.out.println(name + ": " + checked + " checks, " + wrong + " wrong");
        if (wrong != 0) {
            System.exit(1);
        }
    }

    static void type(RoofDrains x, String text) {
        for (char sign : text.toCharArray()) {
            x.append(sign);
        }
    }

    static RoofDrains typed(String text) {
        RoofDrains x = new RoofDrains();
        type(x, text);
        return x;
    }

    /** Gives all gutters of a clean roof so many hundredths of leaves. */
    static void gatherLeaves(RoofDrains x, int hundredths) {
        int ofFirstWeek = Math.min(50, hundredths);
        x.set(1, ofFirstWeek);
        x.weeks(1);
        x.set(1, hundredths - ofFirstWeek);
        x.weeks(1);
    }

    /** A roof on which only plane 0 gets rain, and sends all of it into a gutter at once. */
    static RoofDrains onePlane(int area, int gutter) {
        RoofDrains x = new RoofDrains();
        for (int plane = 1; plane < 6; plane++) {
            x.plane(plane, 0, 0, plane);
        }
        x.plane(0, area, 9, gutter);
        return x;
    }
}
