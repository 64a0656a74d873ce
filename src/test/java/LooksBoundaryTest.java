import java.io.IOException;

/** Each sentence of promises 14 to 17 that names a boundary case, with a test of its own. */
public final class LooksBoundaryTest {
    private static final Class<IndexOutOfBoundsException> INDEX = IndexOutOfBoundsException.class;
    private static final Class<IllegalArgumentException> ARGUMENT = IllegalArgumentException.class;
    private static final int NONE = RoofDrains.NONE;

    private final Sentences s;

    private LooksBoundaryTest(Sentences sentences) {
        s = sentences;
    }

    public static void main(String[] args) throws IOException {
        Sentences sentences = new Sentences();
        LooksBoundaryTest test = new LooksBoundaryTest(sentences);
        test.promise14();
        test.promise15();
        test.promise16();
        test.promise17();
        sentences.end("LooksBoundaryTest");
    }

    private void promise14() {
        s.section("Promise 14: planeOf");
        s.leavesOpen("Returns something of a plane.");
        s.says("- `plane`: 0 to 5", () -> {
            RoofDrains x = new RoofDrains();
            for (int plane = 0; plane < 6; plane++) {
                x.plane(plane, 100 + plane, plane, 5 - plane);
            }
            for (int plane = 0; plane < 6; plane++) {
                int p = plane;
                s.due("area of " + p, () -> x.planeOf(p, 0), 100 + p);
                s.due("slope of " + p, () -> x.planeOf(p, 1), p);
                s.due("gutter of " + p, () -> x.planeOf(p, 2), 5 - p);
            }
        });
        s.says("- `what`: 0: its area; 1: its slope; 2: its gutter; 3: the water on it", () -> {
            planeIs(0, 0, 0, 0, 0);
            planeIs(0, 9, 5, 0, 0);
            planeIs(200, 9, 5, 99, 0);
            planeIs(200, 0, 0, 99, 1980 - 707);
            planeIs(1, 0, 0, 99, 9 - 3);
            planeIs(10, 0, 1, 1, 0);
        });
        s.says("Returns the number.", () -> {
            RoofDrains x = new RoofDrains();
            s.due("planeOf(5, 2)", () -> x.planeOf(5, 2), 5);
            s.due("planeOf(5, 2) again", () -> x.planeOf(5, 2), 5);
            s.due("states", () -> x.count(8), 0);
        });
        s.says("Throws `IndexOutOfBoundsException` if there is no such plane", () -> {
            RoofDrains x = new RoofDrains();
            for (int what = 0; what < 4; what++) {
                int w = what;
                s.refusedOutside("planeOf(.., " + w + ")", 0, 5, x, INDEX, plane -> x.planeOf(plane, w));
            }
        });
        s.says("Throws `IllegalArgumentException` if what is not 0 to 3", () -> {
            RoofDrains x = new RoofDrains();
            s.refusedOutside("planeOf(0, ..)", 0, 3, x, ARGUMENT, what -> x.planeOf(0, what));
            s.refusedOutside("planeOf(5, ..)", 0, 3, x, ARGUMENT, what -> x.planeOf(5, what));
        });
    }

    /** A plane of which this water is left behind a minute of this rain. */
    private void planeIs(int area, int slope, int gutter, int rain, int water) {
        RoofDrains x = new RoofDrains();
        x.plane(2, area, slope, gutter);
        x.rain(rain, 1);
        int[] due = {area, slope, gutter, water};
        for (int what = 0; what < 4; what++) {
            int w = what;
            s.due("planeOf(2, " + w + ")", () -> x.planeOf(2, w), due[w]);
        }
    }

    private void promise15() {
        s.section("Promise 15: gutterOf");
        s.leavesOpen("Returns something of a gutter.");
        s.says("- `gutter`: 0 to 5", () -> {
            RoofDrains x = new RoofDrains();
            for (int gutter = 0; gutter < 6; gutter++) {
                x.gutter(gutter, 100 + gutter, 10 + gutter);
            }
            for (int gutter = 0; gutter < 6; gutter++) {
                int g = gutter;
                s.due("size of " + g, () -> x.gutterOf(g, 0), 100 + g);
                s.due("bore of " + g, () -> x.gutterOf(g, 1), 10 + g);
            }
        });
        s.says("- `what`: 0: its size; 1: its bore; 2: its leaves; 3: its valley, NONE without one; 4: the water in it; 5: "
            + "its room; 6: what its downpipe takes in a minute; 7: litres that it spilt so far; 8: litres that its "
            + "downpipe took so far", this::numbersOfAGutter);
        s.says("Returns the number.", () -> {
            RoofDrains x = new RoofDrains();
            s.due("gutterOf(5, 0)", () -> x.gutterOf(5, 0), 60);
            s.due("gutterOf(5, 0) again", () -> x.gutterOf(5, 0), 60);
            s.due("states", () -> x.count(8), 0);
        });
        s.says("Throws `IndexOutOfBoundsException` if there is no such gutter", () -> {
            RoofDrains x = new RoofDrains();
            for (int what = 0; what < 9; what++) {
                int w = what;
                s.refusedOutside("gutterOf(.., " + w + ")", 0, 5, x, INDEX, gutter -> x.gutterOf(gutter, w));
            }
        });
        s.says("Throws `IllegalArgumentException` if what is not 0 to 8", () -> {
            RoofDrains x = new RoofDrains();
            s.refusedOutside("gutterOf(0, ..)", 0, 8, x, ARGUMENT, what -> x.gutterOf(0, what));
            s.refusedOutside("gutterOf(5, ..)", 0, 8, x, ARGUMENT, what -> x.gutterOf(5, what));
        });
    }

    private void gutterIs(RoofDrains x, int gutter, int... due) {
        for (int what = 0; what < due.length; what++) {
            int w = what;
            s.due("gutterOf(" + gutter + ", " + w + ")", () -> x.gutterOf(gutter, w), due[w]);
        }
    }

    private void numbersOfAGutter() {
        RoofDrains x = Checks.onePlane(200, 0);
        gutterIs(x, 0, 60, 20, 0, NONE, 0, 60, 20, 0, 0);
        x.rain(99, 1);
        gutterIs(x, 0, 60, 20, 0, NONE, 60, 60, 20, 1900, 20);
        x.valley(0, 5);
        x.rain(99, 1);
        gutterIs(x, 0, 60, 20, 0, 5, 60, 60, 20, 1900, 40);
        gutterIs(x, 5, 60, 20, 0, NONE, 60, 60, 20, 1900, 0);
        Checks.gatherLeaves(x, 100);
        gutterIs(x, 0, 60, 20, 100, 5, 60, 0, 1, 1900, 40);
        x.gutter(0, 1, 0);
        gutterIs(x, 0, 1, 0, 100, 5, 60, 0, 0, 1900, 40);
        x.rain(0, 1);
        gutterIs(x, 0, 1, 0, 100, 5, 0, 0, 0, 1900, 40);
        gutterIs(x, 5, 60, 20, 100, NONE, 0, 0, 1, 1900 + 119, 1);
        x.gutter(0, 500, 99);
        gutterIs(x, 0, 500, 99, 100, 5, 0, 0, 1, 1900, 40);
        x.clean(0);
        gutterIs(x, 0, 500, 99, 0, 5, 0, 500, 99, 1900, 40);
    }

    private void promise16() {
        s.section("Promise 16: count");
        s.leavesOpen("Returns a number.");
        s.leavesOpen("- `what`:");
        s.says("0: the minutes that have gone;", () -> {
            RoofDrains x = new RoofDrains();
            countIs(x, 0, 0);
            x.rain(0, 1);
            countIs(x, 0, 1);
            x.rain(99, 60);
            countIs(x, 0, 61);
            x.ifRained(60, 0);
            x.weeks(1);
            countIs(x, 0, 61);
        });
        s.says("1: the weeks that have passed;", () -> {
            RoofDrains x = new RoofDrains();
            countIs(x, 1, 0);
            x.weeks(52);
            x.weeks(52);
            countIs(x, 1, 104);
            Checks.type(x, "w;w");
            x.play();
            x.rain(0, 60);
            countIs(x, 1, 106);
        });
        s.says("2: litres of rain that came to planes so far;", this::litresOfRain);
        s.says("3: litres that stand, on planes and in gutters;", this::litresThatStand);
        s.says("4: litres that were drained so far;", this::litresDrained);
        s.says("5: litres that were spilt so far;", this::litresSpilt);
        s.says("6: minutes so far in which the drain took all that it can, and a downpipe got less than it would have "
            + "taken of what there was;", this::minutesBackedUp);
        s.says("7: the leaves of all gutters together;", () -> {
            RoofDrains x = new RoofDrains();
            countIs(x, 7, 0);
            x.weeks(25);
            countIs(x, 7, 600);
            x.weeks(1);
            countIs(x, 7, 600);
            x.clean(0);
            x.clean(5);
            countIs(x, 7, 400);
        });
        s.says("8: saved states", () -> {
            RoofDrains x = new RoofDrains();
            for (int calls = 0; calls < 20; calls++) {
                countIs(x, 8, Math.min(calls, 6));
                x.set(2, 20);
            }
            x.undo();
            countIs(x, 8, 5);
        });
        s.says("Returns the number.", () -> {
            RoofDrains x = new RoofDrains();
            x.rain(20, 2);
            int[] due = {2, 0, 960, 660, 200, 100, 2, 0, 1};
            for (int what = 0; what < 9; what++) {
                countIs(x, what, due[what]);
            }
        });
        s.says("Throws `IllegalArgumentException` if what is not 0 to 8", () -> {
            RoofDrains x = new RoofDrains();
            s.refusedOutside("count", 0, 8, x, ARGUMENT, x::count);
        });
    }

    private void countIs(RoofDrains x, int what, int due) {
        s.due("count(" + what + ")", () -> x.count(what), due);
    }

    /** What is too little for a litre does not come, and is not kept for the next minute. */
    private void litresOfRain() {
        RoofDrains x = Checks.onePlane(9, 0);
        countIs(x, 2, 0);
        x.rain(1, 60);
        countIs(x, 2, 0);
        x.rain(2, 1);
        countIs(x, 2, 1);
        x.plane(1, 200, 0, 1);
        x.rain(99, 1);
        countIs(x, 2, 1 + 89 + 1980);
        x.rain(0, 60);
        countIs(x, 2, 1 + 89 + 1980);
    }

    private void litresThatStand() {
        RoofDrains x = Checks.onePlane(14, 0);
        x.plane(0, 14, 0, 0);
        x.gutter(0, 3, 0);
        countIs(x, 3, 0);
        x.rain(10, 1);
        countIs(x, 3, 9 + 3);
        x.rain(0, 60);
        countIs(x, 3, 3);
        x.gutter(0, 3, 99);
        x.rain(0, 1);
        countIs(x, 3, 0);
        RoofDrains above = Checks.onePlane(200, 5);
        above.valley(5, 0);
        above.rain(10, 1);
        countIs(above, 3, 180);
    }

    private void litresDrained() {
        RoofDrains x = Checks.onePlane(200, 0);
        x.plane(5, 200, 9, 5);
        x.set(0, 0);
        x.rain(10, 1);
        countIs(x, 4, 0);
        x.set(0, 30);
        x.rain(0, 1);
        countIs(x, 4, 30);
        x.rain(0, 60);
        countIs(x, 4, 120);
        s.due("by gutter 0", () -> x.gutterOf(0, 8), 60);
        s.due("by gutter 5", () -> x.gutterOf(5, 8), 60);
    }

    private void litresSpilt() {
        RoofDrains x = Checks.onePlane(80, 0);
        x.plane(5, 81, 9, 5);
        countIs(x, 5, 0);
        x.rain(10, 1);
        countIs(x, 5, 1);
        x.rain(10, 1);
        countIs(x, 5, 1 + 60 + 61);
        x.valley(0, 1);
        x.rain(10, 1);
        countIs(x, 5, 1 + 60 + 61 + 61);
        x.rain(0, 60);
        countIs(x, 5, 1 + 60 + 61 + 61);
    }

    private void backsUp(int drain, int litresInFirst, int litresInLast, int minutes) {
        RoofDrains x = Checks.onePlane(litresInFirst, 0);
        x.plane(5, litresInLast, 9, 5);
        x.set(0, drain);
        x.rain(10, 1);
        s.due("count(6) with drain " + drain + " and " + litresInFirst + " and " + litresInLast + " litres",
            () -> x.count(6), minutes);
    }

    private void minutesBackedUp() {
        backsUp(40, 20, 20, 0);
        backsUp(39, 20, 20, 1);
        backsUp(40, 100, 100, 0);
        backsUp(39, 100, 100, 1);
        backsUp(20, 20, 0, 0);
        backsUp(20, 20, 1, 1);
        backsUp(20, 0, 20, 0);
        backsUp(19, 0, 20, 1);
        backsUp(30, 10, 20, 0);
        backsUp(30, 11, 20, 1);
        backsUp(1, 0, 1, 0);
        backsUp(0, 0, 1, 1);
        backsUp(0, 0, 0, 0);
        backsUp(0, 100, 100, 1);
        RoofDrains x = new RoofDrains();
        x.set(0, 0);
        x.rain(20, 60);
        countIs(x, 6, 60);
        for (int gutter = 0; gutter < 6; gutter++) {
            x.gutter(gutter, 60, 0);
        }
        x.rain(20, 60);
        countIs(x, 6, 60);
    }

    private void promise17() {
        s.section("Promise 17: setting");
        s.leavesOpen("Returns a setting.");
        s.says("- `setting`: 0 to 2", () -> {
            RoofDrains x = new RoofDrains();
            int[] first = {100, 4, 20};
            for (int setting = 0; setting < 3; setting++) {
                int n = setting;
                s.due("setting(" + n + ")", () -> x.setting(n), first[n]);
            }
        });
        s.says("Returns its value.", () -> {
            int[] most = {600, 50, 99};
            RoofDrains x = new RoofDrains();
            for (int setting = 0; setting < 3; setting++) {
                int n = setting;
                x.set(n, 0);
                s.due("setting(" + n + ")", () -> x.setting(n), 0);
                x.set(n, most[n]);
                s.due("setting(" + n + ")", () -> x.setting(n), most[n]);
            }
        });
        s.says("Throws `IndexOutOfBoundsException` if there is no such setting", () -> {
            RoofDrains x = new RoofDrains();
            s.refusedOutside("setting", 0, 2, x, INDEX, x::setting);
        });
    }
}
