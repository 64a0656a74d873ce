/** Promises 1 to 8: a new object, the calls that change the roof, and what a minute and a week do. */
public final class RoofTest {
    private static final Class<IndexOutOfBoundsException> INDEX = IndexOutOfBoundsException.class;
    private static final Class<IllegalArgumentException> ARGUMENT = IllegalArgumentException.class;
    private static final Class<IllegalStateException> STATE = IllegalStateException.class;
    private static final Checks checks = new Checks();

    public static void main(String[] args) {
        promise1NewObject();
        promise2Plane();
        promise3Gutter();
        promise4Valley();
        promise5Clean();
        promise6Set();
        promise7RainWithFreshRoof();
        promise7PlanesSendBySlope();
        promise7DrainBacksUp();
        promise7LeavesNarrow();
        promise7Valleys();
        promise7Edges();
        promise8Weeks();
        checks.end("RoofTest");
    }

    private static void planeIs(RoofDrains x, int plane, int... numbers) {
        for (int what = 0; what < numbers.length; what++) {
            int w = what;
            checks.due("planeOf(" + plane + ", " + w + ")", () -> x.planeOf(plane, w), numbers[w]);
        }
    }

    private static void gutterIs(RoofDrains x, int gutter, int... numbers) {
        for (int what = 0; what < numbers.length; what++) {
            int w = what;
            checks.due("gutterOf(" + gutter + ", " + w + ")", () -> x.gutterOf(gutter, w), numbers[w]);
        }
    }

    private static void countsAre(RoofDrains x, int... numbers) {
        for (int what = 0; what < numbers.length; what++) {
            int w = what;
            checks.due("count(" + w + ")", () -> x.count(w), numbers[w]);
        }
    }

    private static void promise1NewObject() {
        checks.due("NONE", () -> RoofDrains.NONE, -1);
        RoofDrains x = new RoofDrains();
        RoofDrains other = new RoofDrains();
        other.rain(99, 5);
        other.append('w');
        for (int n = 0; n < 6; n++) {
            planeIs(x, n, 40, 3, n, 0);
            gutterIs(x, n, 60, 20, 0, -1, 0, 60, 20, 0, 0);
        }
        countsAre(x, 0, 0, 0, 0, 0, 0, 0, 0, 0);
        checks.due("setting(0)", () -> x.setting(0), 100);
        checks.due("setting(1)", () -> x.setting(1), 4);
        checks.due("setting(2)", () -> x.setting(2), 20);
        checks.due("clearBuffer()", x::clearBuffer, 0);
        checks.due("undo()", x::undo, "throws.IllegalStateException");
    }

    private static void promise2Plane() {
        RoofDrains x = new RoofDrains();
        x.rain(20, 1);
        planeIs(x, 2, 40, 3, 2, 35);
        checks.due("plane(2, 150, 9, 4)", () -> x.plane(2, 150, 9, 4), 40);
        planeIs(x, 2, 150, 9, 4, 35);
        planeIs(x, 4, 40, 3, 4, 35);
        checks.due("plane(2, 0, 0, 0)", () -> x.plane(2, 0, 0, 0), 150);
        planeIs(x, 2, 0, 0, 0, 35);
        checks.due("plane(5, 200, 9, 5)", () -> x.plane(5, 200, 9, 5), 40);
        checks.due("plane(0, 200, 9, 5)", () -> x.plane(0, 200, 9, 5), 40);
        checks.due("count(8)", () -> x.count(8), 5);
        checks.refused("plane(-1, ..)", x, INDEX, () -> x.plane(-1, 0, 0, 0));
        checks.refused("plane(6, ..)", x, INDEX, () -> x.plane(6, 0, 0, 0));
        checks.refused("plane into gutter -1", x, INDEX, () -> x.plane(0, 0, 0, -1));
        checks.refused("plane into gutter 6", x, INDEX, () -> x.plane(0, 0, 0, 6));
        checks.refused("plane, area -1", x, ARGUMENT, () -> x.plane(0, -1, 0, 0));
        checks.refused("plane, area 201", x, ARGUMENT, () -> x.plane(0, 201, 0, 0));
        checks.refused("plane, slope -1", x, ARGUMENT, () -> x.plane(0, 0, -1, 0));
        checks.refused("plane, slope 10", x, ARGUMENT, () -> x.plane(0, 0, 10, 0));
        checks.refused("plane 6, area 201", x, INDEX, () -> x.plane(6, 201, 0, 0));
        checks.refused("plane, slope 10, gutter 6", x, INDEX, () -> x.plane(0, 0, 10, 6));
        checks.due("undo()", x::undo, 4);
        planeIs(x, 0, 40, 3, 0, 35);
    }

    private static void promise3Gutter() {
        RoofDrains x = new RoofDrains();
        x.rain(20, 1);
        x.weeks(2);
        gutterIs(x, 1, 60, 20, 8, -1, 25, 55, 18, 0, 20);
        checks.due("gutter(1, 10, 5)", () -> x.gutter(1, 10, 5), 60);
        gutterIs(x, 1, 10, 5, 8, -1, 25, 9, 4, 0, 20);
        gutterIs(x, 0, 60, 20);
        checks.due("gutter(1, 500, 99)", () -> x.gutter(1, 500, 99), 10);
        checks.due("gutter(0, 1, 0)", () -> x.gutter(0, 1, 0), 60);
        checks.due("gutter(5, 1, 0)", () -> x.gutter(5, 1, 0), 60);
        checks.refused("gutter(-1, ..)", x, INDEX, () -> x.gutter(-1, 1, 0));
        checks.refused("gutter(6, ..)", x, INDEX, () -> x.gutter(6, 1, 0));
        checks.refused("gutter, size 0", x, ARGUMENT, () -> x.gutter(0, 0, 0));
        checks.refused("gutter, size 501", x, ARGUMENT, () -> x.gutter(0, 501, 0));
        checks.refused("gutter, bore -1", x, ARGUMENT, () -> x.gutter(0, 1, -1));
        checks.refused("gutter, bore 100", x, ARGUMENT, () -> x.gutter(0, 1, 100));
        checks.refused("gutter 6, size 0", x, INDEX, () -> x.gutter(6, 0, 0));
        checks.due("count(8)", () -> x.count(8), 6);
        checks.due("undo()", x::undo, 5);
        gutterIs(x, 5, 60, 20);
    }

    private static void promise4Valley() {
        RoofDrains x = new RoofDrains();
        checks.due("valley(0, 1)", () -> x.valley(0, 1), -1);
        checks.due("valley(0, 2)", () -> x.valley(0, 2), 1);
        checks.due("valley(2, 5)", () -> x.valley(2, 5), -1);
        checks.due("valley(5, 1)", () -> x.valley(5, 1), -1);
        checks.refused("valley(2, 0), one step", x, STATE, () -> x.valley(2, 0));
        checks.refused("valley(1, 0), three steps", x, STATE, () -> x.valley(1, 0));
        checks.refused("valley(1, 2), two steps", x, STATE, () -> x.valley(1, 2));
        checks.refused("valley(1, 1)", x, ARGUMENT, () -> x.valley(1, 1));
        checks.refused("valley(-1, 0)", x, INDEX, () -> x.valley(-1, 0));
        checks.refused("valley(6, 0)", x, INDEX, () -> x.valley(6, 0));
        checks.refused("valley(0, 6)", x, INDEX, () -> x.valley(0, 6));
        checks.refused("valley(0, -2)", x, INDEX, () -> x.valley(0, -2));
        checks.refused("valley(6, 6)", x, INDEX, () -> x.valley(6, 6));
        checks.refused("valley(-1, -1)", x, INDEX, () -> x.valley(-1, -1));
        checks.due("valley(1, 3)", () -> x.valley(1, 3), -1);
        checks.due("valley(4, 3)", () -> x.valley(4, 3), -1);
        checks.refused("valley(3, 0), four steps", x, STATE, () -> x.valley(3, 0));
        checks.due("valley(3, 4) refused", () -> x.valley(3, 4), "throws.IllegalStateException");
        checks.due("valley(4, 0)", () -> x.valley(4, 0), 3);
        checks.refused("valley(3, 4), five steps", x, STATE, () -> x.valley(3, 4));
        checks.due("undo()", x::undo, 5);
        checks.due("gutterOf(4, 3)", () -> x.gutterOf(4, 3), 3);
        checks.due("valley(0, NONE)", () -> x.valley(0, RoofDrains.NONE), 2);
        checks.due("gutterOf(0, 3)", () -> x.gutterOf(0, 3), -1);
        checks.due("valley(3, 0) now", () -> x.valley(3, 0), -1);
        checks.due("valley(3, 0) again", () -> x.valley(3, 0), 0);
    }

    private static void promise5Clean() {
        RoofDrains x = new RoofDrains();
        x.weeks(3);
        x.rain(20, 1);
        checks.due("clean(5)", () -> x.clean(5), 12);
        gutterIs(x, 5, 60, 20, 0);
        gutterIs(x, 4, 60, 20, 12);
        checks.due("clean(5) again", () -> x.clean(5), 0);
        checks.due("count(7)", () -> x.count(7), 60);
        checks.due("count(8)", () -> x.count(8), 4);
        checks.due("clean(0)", () -> x.clean(0), 12);
        checks.refused("clean(-1)", x, INDEX, () -> x.clean(-1));
        checks.refused("clean(6)", x, INDEX, () -> x.clean(6));
        checks.due("undo()", x::undo, 4);
        gutterIs(x, 0, 60, 20, 12);
    }

    private static void promise6Set() {
        RoofDrains x = new RoofDrains();
        int[] first = {100, 4, 20};
        int[] most = {600, 50, 99};
        for (int setting = 0; setting < 3; setting++) {
            int s = setting;
            checks.due("set(" + s + ", most)", () -> x.set(s, most[s]), first[s]);
            checks.due("set(" + s + ", 0)", () -> x.set(s, 0), most[s]);
            checks.due("setting(" + s + ")", () -> x.setting(s), 0);
            checks.refused("set(" + s + ", too much)", x, ARGUMENT, () -> x.set(s, most[s] + 1));
            checks.refused("set(" + s + ", -1)", x, ARGUMENT, () -> x.set(s, -1));
        }
        checks.due("count(8)", () -> x.count(8), 6);
        checks.refused("set(-1, 0)", x, INDEX, () -> x.set(-1, 0));
        checks.refused("set(3, 0)", x, INDEX, () -> x.set(3, 0));
        checks.refused("set(3, -1)", x, INDEX, () -> x.set(3, -1));
        checks.due("undo()", x::undo, 5);
        checks.due("setting(2)", () -> x.setting(2), 99);
    }

    /** 80 litres come to each plane, 45 flow; then 115 are on it and 65 flow. */
    private static void promise7RainWithFreshRoof() {
        RoofDrains x = new RoofDrains();
        checks.due("rain(20, 1)", () -> x.rain(20, 1), 0);
        for (int n = 0; n < 5; n++) {
            planeIs(x, n, 40, 3, n, 35);
            gutterIs(x, n, 60, 20, 0, -1, 25, 60, 20, 0, 20);
        }
        gutterIs(x, 5, 60, 20, 0, -1, 45, 60, 20, 0, 0);
        countsAre(x, 1, 0, 480, 380, 100, 0, 1, 0, 1);
        checks.due("rain(20, 1) again", () -> x.rain(20, 1), 100);
        gutterIs(x, 0, 60, 20, 0, -1, 60, 60, 20, 10, 40);
        gutterIs(x, 5, 60, 20, 0, -1, 60, 60, 20, 50, 0);
        countsAre(x, 2, 0, 960, 660, 200, 100, 2, 0, 2);
        checks.due("undo()", x::undo, 1);
        countsAre(x, 1, 0, 480, 380, 100, 0, 1, 0, 1);
        RoofDrains y = new RoofDrains();
        checks.due("rain(20, 2)", () -> y.rain(20, 2), 100);
        countsAre(y, 2, 0, 960, 660, 200, 100, 2, 0, 1);
    }

    private static void promise7PlanesSendBySlope() {
        RoofDrains x = new RoofDrains();
        x.plane(0, 3, 0, 0);
        x.plane(1, 10, 0, 0);
        x.plane(2, 20, 0, 0);
        x.plane(3, 100, 0, 3);
        x.plane(4, 100, 8, 3);
        x.plane(5, 100, 9, 3);
        x.rain(1, 1);
        planeIs(x, 0, 3, 0, 0, 0);
        planeIs(x, 1, 10, 0, 0, 0);
        planeIs(x, 2, 20, 0, 0, 1);
        planeIs(x, 3, 100, 0, 3, 7);
        planeIs(x, 4, 100, 8, 3, 1);
        planeIs(x, 5, 100, 9, 3, 0);
        countsAre(x, 1, 0, 33, 11, 22);
        x.rain(3, 1);
        planeIs(x, 0, 3, 0, 0, 0);
        x.rain(4, 1);
        checks.due("count(2)", () -> x.count(2), 33 + 99 + 1 + 4 + 8 + 120);
    }

    private static void promise7DrainBacksUp() {
        RoofDrains x = new RoofDrains();
        x.set(0, 30);
        x.rain(20, 1);
        gutterIs(x, 0, 60, 20, 0, -1, 25, 60, 20, 0, 20);
        gutterIs(x, 1, 60, 20, 0, -1, 35, 60, 20, 0, 10);
        gutterIs(x, 2, 60, 20, 0, -1, 45, 60, 20, 0, 0);
        checks.due("count(6)", () -> x.count(6), 1);
        RoofDrains enough = new RoofDrains();
        enough.set(0, 120);
        enough.rain(20, 1);
        checks.due("count(4) with just enough", () -> enough.count(4), 120);
        checks.due("count(6) with just enough", () -> enough.count(6), 0);
        RoofDrains short1 = new RoofDrains();
        short1.set(0, 119);
        short1.rain(20, 1);
        checks.due("count(4), a litre short", () -> short1.count(4), 119);
        checks.due("count(6), a litre short", () -> short1.count(6), 1);
        RoofDrains shut = new RoofDrains();
        shut.set(0, 0);
        shut.rain(0, 5);
        checks.due("count(6), shut and dry", () -> shut.count(6), 0);
        shut.rain(20, 5);
        checks.due("count(6), shut and wet", () -> shut.count(6), 5);
        checks.due("count(4), shut", () -> shut.count(4), 0);
        RoofDrains bored = Checks.onePlane(100, 0);
        bored.set(0, 20);
        bored.rain(99, 3);
        checks.due("count(6), the pipe is full, the drain just too", () -> bored.count(6), 0);
    }

    private static void promise7LeavesNarrow() {
        RoofDrains x = Checks.onePlane(100, 2);
        x.set(1, 33);
        x.weeks(1);
        x.gutter(2, 50, 10);
        checks.due("rain(10, 1)", () -> x.rain(10, 1), 100 - 6 - 33);
        gutterIs(x, 2, 50, 10, 33, -1, 33, 33, 6, 61, 6);
        x.weeks(3);
        gutterIs(x, 2, 50, 10, 100, -1, 33, 0, 1, 61, 6);
        checks.due("rain(0, 1)", () -> x.rain(0, 1), 32);
        gutterIs(x, 2, 50, 10, 100, -1, 0, 0, 1, 93, 7);
        x.gutter(2, 50, 0);
        gutterIs(x, 2, 50, 0, 100, -1, 0, 0, 0, 93, 7);
        x.clean(2);
        x.gutter(2, 50, 1);
        gutterIs(x, 2, 50, 1, 0, -1, 0, 50, 1, 93, 7);
        x.set(1, 1);
        x.weeks(1);
        gutterIs(x, 2, 50, 1, 1, -1, 0, 49, 1, 93, 7);
    }

    private static void promise7Valleys() {
        RoofDrains down = Checks.onePlane(100, 0);
        down.valley(0, 1);
        checks.due("rain(99, 1), valley to a greater", () -> down.rain(99, 1), 990 - 20 - 60 - 60);
        gutterIs(down, 0, 60, 20, 0, 1, 60, 60, 20, 0, 20);
        gutterIs(down, 1, 60, 20, 0, -1, 60, 60, 20, 850, 0);
        RoofDrains up = Checks.onePlane(100, 1);
        up.valley(1, 0);
        checks.due("rain(99, 1), valley to a lesser", () -> up.rain(99, 1), 0);
        gutterIs(up, 0, 60, 20, 0, -1, 910, 60, 20, 0, 0);
        gutterIs(up, 1, 60, 20, 0, 0, 60, 60, 20, 0, 20);
        checks.due("rain(0, 1)", () -> up.rain(0, 1), 830);
        gutterIs(up, 0, 60, 20, 0, -1, 60, 60, 20, 830, 20);
        gutterIs(up, 1, 60, 20, 0, 0, 40, 60, 20, 0, 40);
    }

    private static void promise7Edges() {
        RoofDrains x = new RoofDrains();
        checks.due("rain(99, 60) is taken", () -> x.rain(99, 60) > 0, true);
        checks.due("count(0)", () -> x.count(0), 60);
        checks.due("count(2)", () -> x.count(2), 6 * 396 * 60);
        checks.refused("rain(-1, 1)", x, ARGUMENT, () -> x.rain(-1, 1));
        checks.refused("rain(100, 1)", x, ARGUMENT, () -> x.rain(100, 1));
        checks.refused("rain(0, 0)", x, ARGUMENT, () -> x.rain(0, 0));
        checks.refused("rain(0, 61)", x, ARGUMENT, () -> x.rain(0, 61));
        checks.due("undo()", x::undo, 0);
        countsAre(x, 0, 0, 0, 0, 0, 0, 0, 0, 0);
    }

    private static void promise8Weeks() {
        RoofDrains x = new RoofDrains();
        x.rain(20, 1);
        checks.due("weeks(3)", () -> x.weeks(3), 72);
        countsAre(x, 1, 3, 480, 380, 100, 0, 1, 72, 2);
        x.set(1, 50);
        checks.due("weeks(1)", () -> x.weeks(1), 6 * 62);
        checks.due("weeks(52)", () -> x.weeks(52), 600);
        checks.due("count(1)", () -> x.count(1), 56);
        x.clean(3);
        x.set(1, 0);
        checks.due("weeks(1) without leaves", () -> x.weeks(1), 500);
        checks.refused("weeks(0)", x, ARGUMENT, () -> x.weeks(0));
        checks.refused("weeks(53)", x, ARGUMENT, () -> x.weeks(53));
        checks.due("undo()", x::undo, 5);
        checks.due("count(1) then", () -> x.count(1), 56);
    }
}
