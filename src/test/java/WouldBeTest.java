/** Promises 18 to 24: what would be, the share and the hash. None of these calls changes anything. */
public final class WouldBeTest {
    private static final Class<IllegalArgumentException> ARGUMENT = IllegalArgumentException.class;
    private static final Checks checks = new Checks();

    public static void main(String[] args) {
        promise18IfRained();
        promise19SpillsFirst();
        promise19WithinSixtyMinutes();
        promise20BestClean();
        promise20WithinThirtyMinutes();
        promise21MostRain();
        promise22DryIn();
        promise23DrainedShare();
        promise24Digest();
        nothingIsChanged();
        checks.end("WouldBeTest");
    }

    private static void promise18IfRained() {
        RoofDrains x = new RoofDrains();
        checks.due("ifRained(1, 0)", () -> x.ifRained(1, 0), 0);
        checks.due("ifRained(1, 1)", () -> x.ifRained(1, 1), 100);
        checks.due("ifRained(1, 2)", () -> x.ifRained(1, 2), 380);
        checks.due("ifRained(2, 0)", () -> x.ifRained(2, 0), 100);
        checks.due("ifRained(2, 1)", () -> x.ifRained(2, 1), 200);
        checks.due("ifRained(2, 2)", () -> x.ifRained(2, 2), 660);
        x.rain(20, 2);
        x.set(2, 99);
        RoofDrains y = new RoofDrains();
        y.rain(20, 2);
        int spilt = y.rain(99, 60);
        checks.due("ifRained(60, 0)", () -> x.ifRained(60, 0), spilt);
        checks.due("ifRained(60, 1)", () -> x.ifRained(60, 1), y.count(4) - 200);
        checks.due("ifRained(60, 2)", () -> x.ifRained(60, 2), y.count(3));
        checks.refused("ifRained(0, 0)", x, ARGUMENT, () -> x.ifRained(0, 0));
        checks.refused("ifRained(61, 0)", x, ARGUMENT, () -> x.ifRained(61, 0));
        checks.refused("ifRained(1, -1)", x, ARGUMENT, () -> x.ifRained(1, -1));
        checks.refused("ifRained(1, 3)", x, ARGUMENT, () -> x.ifRained(1, 3));
    }

    private static void promise19SpillsFirst() {
        RoofDrains x = new RoofDrains();
        checks.due("spillsFirst(0)", () -> x.spillsFirst(0), 0);
        checks.due("spillsFirst(1)", () -> x.spillsFirst(1), 2);
        x.gutter(4, 20, 20);
        checks.due("spillsFirst(0), a small gutter", () -> x.spillsFirst(0), 4);
        checks.due("spillsFirst(1), a small gutter", () -> x.spillsFirst(1), 1);
        x.gutter(3, 20, 20);
        checks.due("spillsFirst(0), the lowest of two", () -> x.spillsFirst(0), 3);
        x.gutter(5, 50, 20);
        x.valley(3, 5);
        x.valley(4, 5);
        checks.due("spillsFirst(0), by valleys", () -> x.spillsFirst(0), 5);
        x.rain(99, 5);
        checks.due("spillsFirst(0), behind a spill", () -> x.spillsFirst(0), 0);
        x.set(2, 0);
        x.rain(0, 60);
        checks.due("spillsFirst(0), no rain", () -> x.spillsFirst(0), -1);
        checks.due("spillsFirst(1), no rain", () -> x.spillsFirst(1), -1);
        checks.refused("spillsFirst(-1)", x, ARGUMENT, () -> x.spillsFirst(-1));
        checks.refused("spillsFirst(2)", x, ARGUMENT, () -> x.spillsFirst(2));
    }

    /** 8 litres come in a minute, and none are drained. */
    private static void promise19WithinSixtyMinutes() {
        RoofDrains x = Checks.onePlane(8, 2);
        x.set(2, 10);
        x.gutter(2, 479, 0);
        checks.due("spillsFirst(1), 480 litres in 479", () -> x.spillsFirst(1), 60);
        checks.due("spillsFirst(0), 480 litres in 479", () -> x.spillsFirst(0), 2);
        x.gutter(2, 480, 0);
        checks.due("spillsFirst(1), 480 litres in 480", () -> x.spillsFirst(1), -1);
        checks.due("spillsFirst(0), 480 litres in 480", () -> x.spillsFirst(0), -1);
    }

    private static void promise20BestClean() {
        RoofDrains x = new RoofDrains();
        checks.due("bestClean(), no leaves", x::bestClean, -1);
        x.weeks(10);
        x.set(2, 0);
        checks.due("bestClean(), nothing spilt at all", x::bestClean, 0);
        x.clean(0);
        x.clean(1);
        checks.due("bestClean(), the lowest with leaves", x::bestClean, 2);
        x.set(1, 1);
        x.clean(5);
        x.weeks(1);
        for (int gutter = 0; gutter < 5; gutter++) {
            x.clean(gutter);
        }
        checks.due("bestClean(), 1 hundredth of leaves", x::bestClean, 5);
        RoofDrains y = Checks.onePlane(100, 3);
        y.weeks(10);
        y.set(2, 99);
        checks.due("bestClean(), the one that gets water", y::bestClean, 3);
        y.plane(1, 100, 9, 4);
        y.gutter(4, 60, 99);
        y.set(0, 600);
        checks.due("bestClean(), the one with the greater bore", y::bestClean, 4);
        y.clean(4);
        checks.due("bestClean(), the other has none", y::bestClean, 3);
        y.clean(3);
        checks.due("bestClean(), those that help have none", y::bestClean, 0);
    }

    /** Gutter 0 cleaned has room for 1 litre more, and takes 2 more a minute: 61 in 30 minutes. */
    private static void promise20WithinThirtyMinutes() {
        RoofDrains x = Checks.onePlane(100, 0);
        x.plane(1, 100, 9, 1);
        x.set(0, 600);
        x.set(1, 50);
        x.set(2, 99);
        x.weeks(1);
        x.gutter(0, 1, 3);
        x.gutter(1, 60, 0);
        checks.due("bestClean(), 61 litres against 30", x::bestClean, 0);
        x.gutter(1, 122, 0);
        checks.due("bestClean(), 61 litres against 61", x::bestClean, 0);
        x.gutter(1, 123, 0);
        checks.due("bestClean(), 61 litres against 62", x::bestClean, 1);
    }

    private static void promise21MostRain() {
        RoofDrains x = Checks.onePlane(10, 0);
        checks.due("mostRain(10), new", () -> new RoofDrains().mostRain(10), 4);
        x.gutter(0, 60, 0);
        checks.due("mostRain(1)", () -> x.mostRain(1), 60);
        checks.due("mostRain(2)", () -> x.mostRain(2), 30);
        checks.due("mostRain(59)", () -> x.mostRain(59), 1);
        checks.due("mostRain(60)", () -> x.mostRain(60), 1);
        x.gutter(0, 59, 0);
        checks.due("mostRain(60), a litre smaller", () -> x.mostRain(60), 0);
        x.gutter(0, 99, 0);
        checks.due("mostRain(1), just 99", () -> x.mostRain(1), 99);
        x.gutter(0, 500, 0);
        checks.due("mostRain(1), more than 99", () -> x.mostRain(1), 99);
        x.gutter(0, 98, 0);
        checks.due("mostRain(1), 98", () -> x.mostRain(1), 98);
        x.rain(50, 1);
        checks.due("mostRain(1), half full", () -> x.mostRain(1), 48);
        x.rain(99, 1);
        checks.due("mostRain(1), full, what was spilt does not count", () -> x.mostRain(1), 0);
        x.weeks(1);
        checks.due("mostRain(1), over full", () -> x.mostRain(1), -1);
        checks.refused("mostRain(0)", x, ARGUMENT, () -> x.mostRain(0));
        checks.refused("mostRain(61)", x, ARGUMENT, () -> x.mostRain(61));
    }

    private static void promise22DryIn() {
        checks.due("dryIn(), new", () -> new RoofDrains().dryIn(), 0);
        RoofDrains x = Checks.onePlane(10, 0);
        x.gutter(0, 60, 1);
        x.rain(10, 1);
        checks.due("dryIn(), 9 litres left", x::dryIn, 9);
        x.gutter(0, 60, 0);
        checks.due("dryIn(), no bore", x::dryIn, -1);
        RoofDrains just = Checks.onePlane(43, 0);
        just.gutter(0, 500, 1);
        just.rain(70, 1);
        checks.due("dryIn(), 300 litres left", just::dryIn, 300);
        RoofDrains more = Checks.onePlane(151, 0);
        more.gutter(0, 500, 1);
        more.rain(20, 1);
        checks.due("dryIn(), 301 litres left", more::dryIn, -1);
        RoofDrains onPlane = Checks.onePlane(20, 0);
        onPlane.plane(0, 20, 0, 0);
        onPlane.rain(1, 1);
        checks.due("dryIn(), a litre on a plane", onPlane::dryIn, 1);
    }

    private static void promise23DrainedShare() {
        RoofDrains x = new RoofDrains();
        checks.due("drainedShare(), no rain", x::drainedShare, 1.0);
        x.rain(0, 5);
        checks.due("drainedShare(), rain 0", x::drainedShare, 1.0);
        x.rain(20, 1);
        checks.due("drainedShare()", x::drainedShare, 100.0 / 480.0);
        RoofDrains shut = new RoofDrains();
        shut.set(0, 0);
        shut.rain(20, 1);
        checks.due("drainedShare(), nothing drained", shut::drainedShare, 0.0);
        RoofDrains all = Checks.onePlane(10, 0);
        all.rain(10, 1);
        checks.due("drainedShare(), all drained", all::drainedShare, 1.0);
    }

    private static void promise24Digest() {
        RoofDrains x = new RoofDrains();
        checks.due("digest(), new", x::digest, digestByLooks(x, ""));
        x.rain(33, 7);
        checks.due("digest(), wet", x::digest, digestByLooks(x, ""));
        RoofDrains small = Checks.onePlane(10, 0);
        for (int size = 0; size < 6; size++) {
            small.gutter(0, 60 + size, 0);
            checks.due("digest(), mostRain of 9 to 11 differ", small::digest, digestByLooks(small, ""));
        }
        Checks.type(x, "w;~");
        x.weeks(5);
        x.valley(0, 3);
        checks.due("digest(), with a text", x::digest, digestByLooks(x, "w;~"));
        x.set(0, 1);
        x.rain(99, 60);
        x.rain(99, 60);
        checks.due("digest(), a small share", x::digest, digestByLooks(x, "w;~"));
        RoofDrains shut = new RoofDrains();
        shut.set(0, 0);
        shut.rain(99, 3);
        checks.due("digest(), share 0.0", shut::digest, digestByLooks(shut, ""));
    }

    private static long digestByLooks(RoofDrains x, String buffer) {
        long hash = 3067;
        for (int what = 0; what < 9; what++) {
            hash = 31 * hash + x.count(what);
        }
        for (int setting = 0; setting < 3; setting++) {
            hash = 31 * hash + x.setting(setting);
        }
        for (int plane = 0; plane < 6; plane++) {
            for (int what = 0; what < 4; what++) {
                hash = 31 * hash + x.planeOf(plane, what);
            }
        }
        for (int gutter = 0; gutter < 6; gutter++) {
            for (int what = 0; what < 9; what++) {
                hash = 31 * hash + x.gutterOf(gutter, what);
            }
        }
        long[] wouldBe = {x.ifRained(20, 0), x.ifRained(20, 1), x.ifRained(20, 2), x.spillsFirst(0), x.spillsFirst(1),
            x.bestClean(), x.mostRain(10), x.dryIn(), Double.doubleToLongBits(x.drainedShare()), buffer.length()};
        for (long value : wouldBe) {
            hash = 31 * hash + value;
        }
        for (char sign : buffer.toCharArray()) {
            hash = 31 * hash + sign;
        }
        return hash;
    }

    private static void nothingIsChanged() {
        RoofDrains x = new RoofDrains();
        x.rain(30, 9);
        x.weeks(4);
        long before = x.digest();
        x.ifRained(60, 0);
        x.spillsFirst(1);
        x.bestClean();
        x.mostRain(60);
        x.dryIn();
        x.drainedShare();
        checks.due("digest() behind what would be", x::digest, before);
        checks.due("digest() behind digest()", x::digest, before);
    }
}
