import java.io.IOException;

/** Each sentence of promises 1 to 8 that names a boundary case, with a test of its own. */
public final class RoofBoundaryTest {
    private static final Class<IndexOutOfBoundsException> INDEX = IndexOutOfBoundsException.class;
    private static final Class<IllegalArgumentException> ARGUMENT = IllegalArgumentException.class;
    private static final Class<IllegalStateException> STATE = IllegalStateException.class;
    private static final int NONE = RoofDrains.NONE;

    private final Sentences s;

    private RoofBoundaryTest(Sentences sentences) {
        s = sentences;
    }

    public static void main(String[] args) throws IOException {
        Sentences sentences = new Sentences();
        RoofBoundaryTest test = new RoofBoundaryTest(sentences);
        test.promise1();
        test.promise2();
        test.promise3();
        test.promise4();
        test.promise5();
        test.promise6();
        test.promise7();
        test.promise8();
        sentences.end("RoofBoundaryTest");
    }

    private void planeIs(RoofDrains x, int plane, int... due) {
        for (int what = 0; what < due.length; what++) {
            int w = what;
            s.due("planeOf(" + plane + ", " + w + ")", () -> x.planeOf(plane, w), due[w]);
        }
    }

    private void gutterIs(RoofDrains x, int gutter, int... due) {
        for (int what = 0; what < due.length; what++) {
            int w = what;
            s.due("gutterOf(" + gutter + ", " + w + ")", () -> x.gutterOf(gutter, w), due[w]);
        }
    }

    private void promise1() {
        s.section("Promise 1: A new object");
        s.says("Creates a dry roof with clean gutters,", this::dryAndClean);
        s.says("and an empty buffer.", this::emptyBuffer);
    }

    /** Also behind the life of another object. */
    private void dryAndClean() {
        RoofDrains other = Checks.onePlane(200, 3);
        other.weeks(52);
        other.rain(99, 60);
        RoofDrains x = new RoofDrains();
        for (int n = 0; n < 6; n++) {
            planeIs(x, n, 40, 3, n, 0);
            gutterIs(x, n, 60, 20, 0, NONE, 0, 60, 20, 0, 0);
        }
        for (int what = 0; what < 9; what++) {
            int w = what;
            s.due("count(" + w + ")", () -> x.count(w), 0);
        }
        s.due("dryIn()", x::dryIn, 0);
        s.due("bestClean()", x::bestClean, NONE);
        s.due("undo()", x::undo, "throws.IllegalStateException");
    }

    private void emptyBuffer() {
        Checks.typed("w".repeat(60));
        RoofDrains x = new RoofDrains();
        s.due("firstError()", x::firstError, 0);
        s.refused("play()", x, ARGUMENT, x::play);
        s.due("clearBuffer()", x::clearBuffer, 0);
        s.due("append('w')", () -> x.append('w'), 1);
    }

    private void promise2() {
        s.section("Promise 2: plane");
        s.says("Changes a plane;", this::changesOnePlane);
        s.says("the water on it stays.", this::waterOnAPlaneStays);
        s.says("Undoable.", () -> {
            RoofDrains x = new RoofDrains();
            x.rain(20, 1);
            s.undoable("plane", x, () -> x.plane(0, 200, 9, 5));
            s.undoable("plane, nothing changed", x, () -> x.plane(0, 40, 3, 0));
        });
        s.says("- `plane`: 0 to 5", () -> {
            RoofDrains x = new RoofDrains();
            for (int plane = 0; plane < 6; plane++) {
                int p = plane;
                s.due("plane " + p, () -> x.plane(p, p, 3, p), 40);
                planeIs(x, p, p, 3, p);
            }
        });
        s.says("- `area`: 0 to 200", () -> {
            RoofDrains x = new RoofDrains();
            for (int area : new int[] {0, 1, 199, 200}) {
                x.plane(3, area, 0, 0);
                planeIs(x, 3, area, 0, 0);
            }
        });
        s.says("- `slope`: 0 to 9", () -> {
            RoofDrains x = new RoofDrains();
            for (int slope = 0; slope < 10; slope++) {
                x.plane(3, 0, slope, 0);
                planeIs(x, 3, 0, slope, 0);
            }
        });
        s.says("- `gutter`: 0 to 5", () -> {
            RoofDrains x = new RoofDrains();
            for (int gutter = 0; gutter < 6; gutter++) {
                x.plane(3, 0, 0, gutter);
                planeIs(x, 3, 0, 0, gutter);
            }
        });
        s.says("Returns the previous area.", () -> {
            RoofDrains x = new RoofDrains();
            int previous = 40;
            for (int area : new int[] {0, 0, 200, 200, 1, 40}) {
                s.due("plane, area " + area, () -> x.plane(5, area, 9, 2), previous);
                previous = area;
            }
        });
        s.says("Throws `IndexOutOfBoundsException` if there is no such plane or gutter", () -> {
            RoofDrains x = new RoofDrains();
            s.refusedOutside("plane", 0, 5, x, INDEX, plane -> x.plane(plane, 40, 3, 0));
            s.refusedOutside("gutter", 0, 5, x, INDEX, gutter -> x.plane(0, 40, 3, gutter));
        });
        s.says("Throws `IllegalArgumentException` if area or slope is out of range", () -> {
            RoofDrains x = new RoofDrains();
            s.refusedOutside("area", 0, 200, x, ARGUMENT, area -> x.plane(0, area, 3, 0));
            s.refusedOutside("slope", 0, 9, x, ARGUMENT, slope -> x.plane(0, 40, slope, 0));
        });
    }

    private void changesOnePlane() {
        for (int plane = 0; plane < 6; plane++) {
            RoofDrains x = new RoofDrains();
            x.plane(plane, 7, 8, 5 - plane);
            for (int n = 0; n < 6; n++) {
                if (n == plane) {
                    planeIs(x, n, 7, 8, 5 - n, 0);
                } else {
                    planeIs(x, n, 40, 3, n, 0);
                }
            }
        }
    }

    /** 18 of 28 litres stay on the plane, and flow by the new slope into the new gutter, also if its area is 0. */
    private void waterOnAPlaneStays() {
        RoofDrains x = Checks.onePlane(28, 0);
        x.plane(0, 28, 0, 0);
        x.rain(10, 1);
        planeIs(x, 0, 28, 0, 0, 18);
        x.plane(0, 0, 9, 4);
        planeIs(x, 0, 0, 9, 4, 18);
        x.rain(99, 1);
        planeIs(x, 0, 0, 9, 4, 0);
        s.due("none more for the gutter before", () -> x.gutterOf(0, 8), 10);
        s.due("litres for the new one", () -> x.gutterOf(4, 8), 18);
    }

    private void promise3() {
        s.section("Promise 3: gutter");
        s.says("Changes a gutter;", this::changesOneGutter);
        s.says("water and leaves in it stay.", this::waterAndLeavesStay);
        s.says("Undoable.", () -> {
            RoofDrains x = new RoofDrains();
            x.rain(20, 1);
            s.undoable("gutter", x, () -> x.gutter(0, 500, 99));
            s.undoable("gutter, nothing changed", x, () -> x.gutter(0, 60, 20));
        });
        s.says("- `gutter`: 0 to 5", () -> {
            RoofDrains x = new RoofDrains();
            for (int gutter = 0; gutter < 6; gutter++) {
                int g = gutter;
                s.due("gutter " + g, () -> x.gutter(g, g + 1, g), 60);
                gutterIs(x, g, g + 1, g);
            }
        });
        s.says("- `size`: 1 to 500", () -> {
            RoofDrains x = new RoofDrains();
            for (int size : new int[] {1, 2, 499, 500}) {
                x.gutter(3, size, 0);
                gutterIs(x, 3, size, 0, 0, NONE, 0, size);
            }
        });
        s.says("- `bore`: 0 to 99", () -> {
            RoofDrains x = new RoofDrains();
            for (int bore : new int[] {0, 1, 98, 99}) {
                x.gutter(3, 1, bore);
                gutterIs(x, 3, 1, bore, 0, NONE, 0, 1, bore);
            }
        });
        s.says("Returns the previous size.", () -> {
            RoofDrains x = new RoofDrains();
            int previous = 60;
            for (int size : new int[] {1, 1, 500, 500, 2, 60}) {
                s.due("gutter, size " + size, () -> x.gutter(5, size, 7), previous);
                previous = size;
            }
        });
        s.says("Throws `IndexOutOfBoundsException` if there is no such gutter", () -> {
            RoofDrains x = new RoofDrains();
            s.refusedOutside("gutter", 0, 5, x, INDEX, gutter -> x.gutter(gutter, 60, 20));
        });
        s.says("Throws `IllegalArgumentException` if size or bore is out of range", () -> {
            RoofDrains x = new RoofDrains();
            s.refusedOutside("size", 1, 500, x, ARGUMENT, size -> x.gutter(0, size, 20));
            s.refusedOutside("bore", 0, 99, x, ARGUMENT, bore -> x.gutter(0, 60, bore));
        });
    }

    private void changesOneGutter() {
        for (int gutter = 0; gutter < 6; gutter++) {
            RoofDrains x = new RoofDrains();
            x.gutter(gutter, 7, 8);
            for (int n = 0; n < 6; n++) {
                gutterIs(x, n, n == gutter ? new int[] {7, 8, 0, NONE, 0, 7, 8} : new int[] {60, 20, 0, NONE, 0, 60, 20});
            }
        }
    }

    /** Water above the new room stands till the next minute. */
    private void waterAndLeavesStay() {
        RoofDrains x = Checks.onePlane(80, 2);
        x.rain(10, 1);
        x.weeks(1);
        gutterIs(x, 2, 60, 20, 4, NONE, 60, 57, 19, 0, 20);
        x.gutter(2, 1, 0);
        gutterIs(x, 2, 1, 0, 4, NONE, 60, 0, 0, 0, 20);
        s.due("spilt in the next minute", () -> x.rain(0, 1), 60);
        gutterIs(x, 2, 1, 0, 4, NONE, 0, 0, 0, 60, 20);
    }

    private void promise4() {
        s.section("Promise 4: valley");
        s.says("Changes the valley of a gutter.", this::changesOneValley);
        s.says("Undoable.", () -> {
            RoofDrains x = new RoofDrains();
            x.valley(1, 2);
            s.undoable("valley", x, () -> x.valley(0, 5));
            s.undoable("valley to NONE", x, () -> x.valley(1, NONE));
            s.undoable("valley, nothing changed", x, () -> x.valley(1, 2));
            s.undoable("valley NONE, nothing changed", x, () -> x.valley(0, NONE));
        });
        s.says("- `gutter`: 0 to 5", () -> {
            for (int gutter = 0; gutter < 6; gutter++) {
                RoofDrains x = new RoofDrains();
                int g = gutter;
                s.due("valley of " + g, () -> x.valley(g, 5 - g), NONE);
                s.due("the valley of " + g, () -> x.gutterOf(g, 3), 5 - g);
            }
        });
        s.says("- `to`: another gutter, or NONE", this::toAnotherOrNone);
        s.says("Returns the previous valley, NONE without one.", () -> {
            RoofDrains x = new RoofDrains();
            int previous = NONE;
            for (int to : new int[] {NONE, 0, 0, 5, NONE, NONE, 2}) {
                s.due("valley to " + to, () -> x.valley(3, to), previous);
                previous = to;
            }
        });
        s.says("Throws `IndexOutOfBoundsException` if there is no such gutter", () -> {
            RoofDrains x = new RoofDrains();
            s.refusedOutside("valley of", 0, 5, x, INDEX, gutter -> x.valley(gutter, 0));
            s.refusedOutside("valley to", -1, 5, x, INDEX, to -> x.valley(0, to));
            s.refused("valley(-1, NONE)", x, INDEX, () -> x.valley(-1, NONE));
            s.refused("valley(6, 6)", x, INDEX, () -> x.valley(6, 6));
        });
        s.says("Throws `IllegalArgumentException` if both are the same", () -> {
            RoofDrains x = new RoofDrains();
            x.valley(0, 1);
            for (int gutter = 0; gutter < 6; gutter++) {
                int g = gutter;
                s.refused("valley(" + g + ", " + g + ")", x, ARGUMENT, () -> x.valley(g, g));
            }
        });
        s.says("Throws `IllegalStateException` if by valleys water would come from the other gutter back to this one",
            this::noWayBack);
    }

    private void changesOneValley() {
        RoofDrains x = new RoofDrains();
        x.valley(2, 4);
        int[] due = {NONE, NONE, 4, NONE, NONE, NONE};
        for (int gutter = 0; gutter < 6; gutter++) {
            gutterIs(x, gutter, 60, 20, 0, due[gutter], 0, 60, 20, 0, 0);
        }
        x.valley(2, 5);
        s.due("changed again", () -> x.gutterOf(2, 3), 5);
        s.due("the one before has none", () -> x.gutterOf(4, 3), NONE);
    }

    private void toAnotherOrNone() {
        for (int gutter = 0; gutter < 6; gutter++) {
            for (int to = NONE; to < 6; to++) {
                int g = gutter;
                int other = to;
                RoofDrains x = new RoofDrains();
                s.due("valley(" + g + ", " + other + ")", () -> x.valley(g, other),
                    g == other ? "throws.IllegalArgumentException" : (Object) NONE);
                s.due("the valley then", () -> x.gutterOf(g, 3), g == other ? NONE : other);
            }
        }
    }

    /** Ways back of one to five valleys; a way that ends, joins or is cut is none. */
    private void noWayBack() {
        for (int longest = 1; longest < 6; longest++) {
            RoofDrains x = new RoofDrains();
            for (int gutter = 0; gutter < longest; gutter++) {
                x.valley(gutter, gutter + 1);
            }
            for (int start = 0; start < longest; start++) {
                int last = longest;
                int to = start;
                s.refused("back from " + last + " to " + to, x, STATE, () -> x.valley(last, to));
            }
        }
        RoofDrains down = new RoofDrains();
        for (int gutter = 5; gutter > 0; gutter--) {
            down.valley(gutter, gutter - 1);
        }
        s.refused("back from 0 to 5", down, STATE, () -> down.valley(0, 5));
        s.refused("back from 2 to 4", down, STATE, () -> down.valley(2, 4));
        s.due("the same again", () -> down.valley(5, 4), 4);
        s.due("a shorter way", () -> down.valley(5, 0), 4);
        s.due("another way that joins", () -> down.valley(4, 0), 3);
        s.refused("back from 3 to its own start", down, STATE, () -> down.valley(0, 3));
        s.due("the way is cut", () -> down.valley(3, NONE), 2);
        s.due("no way back now", () -> down.valley(0, 3), NONE);
        s.due("NONE is never a way back", () -> down.valley(0, NONE), 3);
    }

    private void promise5() {
        s.section("Promise 5: clean");
        s.says("Cleans a gutter: its leaves are 0.", this::leavesAreZero);
        s.says("Undoable.", () -> {
            RoofDrains x = new RoofDrains();
            s.undoable("clean, nothing changed", x, () -> x.clean(0));
            x.weeks(5);
            s.undoable("clean", x, () -> x.clean(5));
        });
        s.says("- `gutter`: 0 to 5", () -> {
            RoofDrains x = new RoofDrains();
            x.weeks(1);
            for (int gutter = 0; gutter < 6; gutter++) {
                int g = gutter;
                s.due("clean(" + g + ")", () -> x.clean(g), 4);
                s.due("leaves together", () -> x.count(7), 20 - 4 * g);
            }
        });
        s.says("Returns the leaves that it had.", () -> {
            for (int hundredths : new int[] {0, 1, 50, 99, 100}) {
                RoofDrains x = new RoofDrains();
                Checks.gatherLeaves(x, hundredths);
                s.due("clean(3)", () -> x.clean(3), hundredths);
                s.due("clean(3) again", () -> x.clean(3), 0);
            }
        });
        s.says("Throws `IndexOutOfBoundsException` if there is no such gutter", () -> {
            RoofDrains x = new RoofDrains();
            x.weeks(3);
            s.refusedOutside("clean", 0, 5, x, INDEX, x::clean);
        });
    }

    private void leavesAreZero() {
        RoofDrains x = Checks.onePlane(80, 2);
        x.rain(10, 1);
        Checks.gatherLeaves(x, 100);
        x.clean(2);
        gutterIs(x, 2, 60, 20, 0, NONE, 60, 60, 20, 0, 20);
        gutterIs(x, 1, 60, 20, 100, NONE, 0, 0, 1, 0, 0);
        gutterIs(x, 3, 60, 20, 100, NONE, 0, 0, 1, 0, 0);
        s.due("nothing is above its room", () -> x.rain(0, 1), 0);
    }

    private void promise6() {
        s.section("Promise 6: set");
        s.says("Changes a setting.", () -> {
            RoofDrains x = new RoofDrains();
            x.set(1, 0);
            int[] due = {100, 0, 20};
            for (int setting = 0; setting < 3; setting++) {
                int n = setting;
                s.due("setting(" + n + ")", () -> x.setting(n), due[n]);
            }
            s.due("a week without leaves", () -> x.weeks(1), 0);
        });
        s.says("Undoable.", () -> {
            RoofDrains x = new RoofDrains();
            s.undoable("set", x, () -> x.set(0, 600));
            s.undoable("set, nothing changed", x, () -> x.set(0, 100));
        });
        s.says("- `setting`: 0 to 2", () -> {
            RoofDrains x = new RoofDrains();
            int[] first = {100, 4, 20};
            for (int setting = 0; setting < 3; setting++) {
                int n = setting;
                s.due("set(" + n + ")", () -> x.set(n, n + 1), first[n]);
                s.due("setting(" + n + ")", () -> x.setting(n), n + 1);
            }
        });
        s.says("- `value`: the new value", () -> {
            int[] most = {600, 50, 99};
            for (int setting = 0; setting < 3; setting++) {
                RoofDrains x = new RoofDrains();
                int n = setting;
                for (int value : new int[] {0, 1, most[n] - 1, most[n]}) {
                    x.set(n, value);
                    s.due("setting(" + n + ")", () -> x.setting(n), value);
                }
            }
        });
        s.says("Returns the previous value.", () -> {
            RoofDrains x = new RoofDrains();
            int previous = 100;
            for (int value : new int[] {0, 0, 600, 600, 1, 100}) {
                s.due("set(0, " + value + ")", () -> x.set(0, value), previous);
                previous = value;
            }
        });
        s.says("Throws `IndexOutOfBoundsException` if there is no such setting", () -> {
            RoofDrains x = new RoofDrains();
            s.refusedOutside("setting", 0, 2, x, INDEX, setting -> x.set(setting, 0));
        });
        s.says("Throws `IllegalArgumentException` if value is out of range", () -> {
            RoofDrains x = new RoofDrains();
            s.refusedOutside("drain", 0, 600, x, ARGUMENT, value -> x.set(0, value));
            s.refusedOutside("leaves of a week", 0, 50, x, ARGUMENT, value -> x.set(1, value));
            s.refusedOutside("rain thought of", 0, 99, x, ARGUMENT, value -> x.set(2, value));
        });
    }

    private void promise7() {
        s.section("Promise 7: rain");
        s.says("Lets it rain.", () -> {
            RoofDrains x = Checks.onePlane(10, 0);
            x.rain(99, 1);
            s.due("litres of rain", () -> x.count(2), 99);
            x.rain(1, 2);
            s.due("litres of rain then", () -> x.count(2), 101);
        });
        s.says("Undoable, as one call.", () -> {
            RoofDrains x = new RoofDrains();
            s.undoable("rain of 60 minutes", x, () -> x.rain(99, 60));
            s.undoable("rain of a minute", x, () -> x.rain(0, 1));
        });
        s.says("- `rain`: 0 to 99", () -> {
            for (int rain : new int[] {0, 1, 98, 99}) {
                RoofDrains x = Checks.onePlane(10, 0);
                x.rain(rain, 1);
                s.due("litres by rain " + rain, () -> x.count(2), rain);
            }
        });
        s.says("- `minutes`: 1 to 60", () -> {
            for (int minutes : new int[] {1, 2, 59, 60}) {
                RoofDrains x = Checks.onePlane(10, 0);
                x.rain(1, minutes);
                s.due("minutes", () -> x.count(0), minutes);
                s.due("litres", () -> x.count(2), minutes);
            }
        });
        s.says("Returns the litres that are spilt in them.", this::spiltInThem);
        s.says("Throws `IllegalArgumentException` if rain or minutes is out of range", () -> {
            RoofDrains x = new RoofDrains();
            s.refusedOutside("rain", 0, 99, x, ARGUMENT, rain -> x.rain(rain, 1));
            s.refusedOutside("minutes", 1, 60, x, ARGUMENT, minutes -> x.rain(20, minutes));
        });
    }

    /** Not what was spilt before, nor what goes into a valley. */
    private void spiltInThem() {
        RoofDrains x = Checks.onePlane(80, 0);
        s.due("just nothing", () -> x.rain(10, 1), 0);
        s.due("60 a minute", () -> x.rain(10, 3), 180);
        s.due("as many again", () -> x.rain(10, 3), 180);
        s.due("nothing by rain 0", () -> x.rain(0, 60), 0);
        s.due("nothing on a dry roof", () -> x.rain(0, 1), 0);
        x.valley(0, 1);
        s.due("just nothing with a valley", () -> x.rain(10, 2), 0);
        s.due("what goes over the rim of the other", () -> x.rain(10, 2), 2 * (60 - 20));
    }

    private void promise8() {
        s.section("Promise 8: weeks");
        s.says("Lets weeks pass.", () -> {
            RoofDrains x = new RoofDrains();
            x.set(1, 1);
            x.weeks(52);
            s.due("weeks", () -> x.count(1), 52);
            s.due("leaves", () -> x.gutterOf(0, 2), 52);
            s.due("minutes", () -> x.count(0), 0);
        });
        s.says("Undoable, as one call.", () -> {
            RoofDrains x = new RoofDrains();
            s.undoable("52 weeks", x, () -> x.weeks(52));
            x.set(1, 0);
            s.undoable("a week without leaves", x, () -> x.weeks(1));
        });
        s.says("- `weeks`: 1 to 52", () -> {
            for (int weeks : new int[] {1, 2, 51, 52}) {
                RoofDrains x = new RoofDrains();
                x.set(1, 1);
                s.due("weeks(" + weeks + ")", () -> x.weeks(weeks), 6 * weeks);
                s.due("count(1)", () -> x.count(1), weeks);
            }
        });
        s.says("Returns the leaves of all gutters together then.", this::leavesTogetherThen);
        s.says("Throws `IllegalArgumentException` if weeks is out of range", () -> {
            RoofDrains x = new RoofDrains();
            s.refusedOutside("weeks", 1, 52, x, ARGUMENT, x::weeks);
        });
    }

    private void leavesTogetherThen() {
        RoofDrains x = new RoofDrains();
        s.due("24 weeks of 4", () -> x.weeks(24), 6 * 96);
        x.clean(4);
        s.due("one more", () -> x.weeks(1), 5 * 100 + 4);
        s.due("five full and one not", () -> x.weeks(23), 5 * 100 + 96);
        s.due("all full", () -> x.weeks(1), 600);
        s.due("not more", () -> x.weeks(52), 600);
        x.set(1, 0);
        x.clean(0);
        s.due("no leaves more", () -> x.weeks(52), 500);
        RoofDrains none = new RoofDrains();
        none.set(1, 0);
        s.due("none at all", () -> none.weeks(52), 0);
    }
}
