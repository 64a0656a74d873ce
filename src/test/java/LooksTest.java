/** Promises 14 to 17: what is looked at, and what there is not to look at. */
public final class LooksTest {
    private static final Class<IndexOutOfBoundsException> INDEX = IndexOutOfBoundsException.class;
    private static final Class<IllegalArgumentException> ARGUMENT = IllegalArgumentException.class;
    private static final Checks checks = new Checks();

    public static void main(String[] args) {
        promise14PlaneOf();
        promise15GutterOf();
        promise16Count();
        promise17Setting();
        checks.end("LooksTest");
    }

    private static void promise14PlaneOf() {
        RoofDrains x = new RoofDrains();
        x.plane(3, 70, 2, 1);
        x.rain(10, 1);
        int[] due = {70, 2, 1, 35};
        for (int what = 0; what < 4; what++) {
            int w = what;
            checks.due("planeOf(3, " + w + ")", () -> x.planeOf(3, w), due[w]);
        }
        checks.refused("planeOf(-1, 0)", x, INDEX, () -> x.planeOf(-1, 0));
        checks.refused("planeOf(6, 0)", x, INDEX, () -> x.planeOf(6, 0));
        checks.refused("planeOf(0, -1)", x, ARGUMENT, () -> x.planeOf(0, -1));
        checks.refused("planeOf(0, 4)", x, ARGUMENT, () -> x.planeOf(0, 4));
        checks.refused("planeOf(6, 4)", x, INDEX, () -> x.planeOf(6, 4));
    }

    private static void promise15GutterOf() {
        RoofDrains x = Checks.onePlane(100, 4);
        x.gutter(4, 70, 30);
        x.valley(3, 4);
        x.valley(4, 5);
        x.set(1, 10);
        x.weeks(1);
        x.rain(9, 1);
        x.rain(9, 1);
        int[] four = {70, 30, 10, 5, 63, 63, 27, 0, 54};
        int[] five = {60, 20, 10, -1, 54, 54, 18, 9, 0};
        for (int what = 0; what < 9; what++) {
            int w = what;
            checks.due("gutterOf(4, " + w + ")", () -> x.gutterOf(4, w), four[w]);
            checks.due("gutterOf(5, " + w + ")", () -> x.gutterOf(5, w), five[w]);
        }
        x.rain(9, 1);
        checks.due("gutterOf(5, 8)", () -> x.gutterOf(5, 8), 18);
        checks.due("gutterOf(5, 7)", () -> x.gutterOf(5, 7), 54);
        checks.refused("gutterOf(-1, 0)", x, INDEX, () -> x.gutterOf(-1, 0));
        checks.refused("gutterOf(6, 0)", x, INDEX, () -> x.gutterOf(6, 0));
        checks.refused("gutterOf(0, -1)", x, ARGUMENT, () -> x.gutterOf(0, -1));
        checks.refused("gutterOf(0, 9)", x, ARGUMENT, () -> x.gutterOf(0, 9));
        checks.refused("gutterOf(6, 9)", x, INDEX, () -> x.gutterOf(6, 9));
    }

    private static void promise16Count() {
        RoofDrains x = new RoofDrains();
        x.rain(20, 2);
        x.weeks(3);
        int[] due = {2, 3, 960, 660, 200, 100, 2, 72, 2};
        for (int what = 0; what < 9; what++) {
            int w = what;
            checks.due("count(" + w + ")", () -> x.count(w), due[w]);
        }
        checks.refused("count(-1)", x, ARGUMENT, () -> x.count(-1));
        checks.refused("count(9)", x, ARGUMENT, () -> x.count(9));
    }

    private static void promise17Setting() {
        RoofDrains x = new RoofDrains();
        x.set(0, 7);
        x.set(1, 8);
        x.set(2, 9);
        checks.due("setting(0)", () -> x.setting(0), 7);
        checks.due("setting(1)", () -> x.setting(1), 8);
        checks.due("setting(2)", () -> x.setting(2), 9);
        checks.refused("setting(-1)", x, INDEX, () -> x.setting(-1));
        checks.refused("setting(3)", x, INDEX, () -> x.setting(3));
    }
}
